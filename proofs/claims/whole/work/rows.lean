section
-- ===== PART A: goes FIRST, ahead of the names: the tables' words, and 'selects' of the private methods out of them =====
/-- a private method of a class that the tables say can be made, by its rows of tables_1 -/
def lw_okq (q : MethodName × Nat) : Prop := (q.1.cls ≠ "java/lang/invoke/MethodHandle" ∧ q.1.cls ≠ "java/lang/invoke/VarHandle") ∧ Cond.instantiable q.1.cls q.2 ∈ tables_1 ∧ Cond.privateMethod q.1 ∈ tables_1 ∧ Cond.instanceMethod q.1 ∈ tables_1
theorem lw_p0 : lw_okq (⟨"LispMachine$Store", "hold", "(JII)I"⟩, 6) := ⟨⟨by decide +kernel, by decide +kernel⟩, List.mem_of_getElem? (i := 29) (by decide +kernel), List.mem_of_getElem? (i := 148) (by decide +kernel), List.mem_of_getElem? (i := 149) (by decide +kernel)⟩
theorem lw_p1 : lw_okq (⟨"LispMachine$Reader", "behindBlanks", "(II)I"⟩, 14) := ⟨⟨by decide +kernel, by decide +kernel⟩, List.mem_of_getElem? (i := 180) (by decide +kernel), List.mem_of_getElem? (i := 463) (by decide +kernel), List.mem_of_getElem? (i := 464) (by decide +kernel)⟩
theorem lw_p2 : lw_okq (⟨"LispMachine$Reader", "behindWord", "(II)I"⟩, 14) := ⟨⟨by decide +kernel, by decide +kernel⟩, List.mem_of_getElem? (i := 180) (by decide +kernel), List.mem_of_getElem? (i := 467) (by decide +kernel), List.mem_of_getElem? (i := 468) (by decide +kernel)⟩
theorem lw_p3 : lw_okq (⟨"LispMachine$Reader", "faultOfWord", "(II)I"⟩, 14) := ⟨⟨by decide +kernel, by decide +kernel⟩, List.mem_of_getElem? (i := 180) (by decide +kernel), List.mem_of_getElem? (i := 476) (by decide +kernel), List.mem_of_getElem? (i := 477) (by decide +kernel)⟩
theorem lw_p4 : lw_okq (⟨"LispMachine$Reader", "scanAtom", "(II)Z"⟩, 14) := ⟨⟨by decide +kernel, by decide +kernel⟩, List.mem_of_getElem? (i := 180) (by decide +kernel), List.mem_of_getElem? (i := 480) (by decide +kernel), List.mem_of_getElem? (i := 481) (by decide +kernel)⟩
theorem lw_p5 : lw_okq (⟨"LispMachine$Reader", "mayStand", "(C)Z"⟩, 14) := ⟨⟨by decide +kernel, by decide +kernel⟩, List.mem_of_getElem? (i := 180) (by decide +kernel), List.mem_of_getElem? (i := 488) (by decide +kernel), List.mem_of_getElem? (i := 489) (by decide +kernel)⟩
theorem lw_p6 : lw_okq (⟨"LispMachine$Reader", "take", "(C)V"⟩, 14) := ⟨⟨by decide +kernel, by decide +kernel⟩, List.mem_of_getElem? (i := 180) (by decide +kernel), List.mem_of_getElem? (i := 492) (by decide +kernel), List.mem_of_getElem? (i := 493) (by decide +kernel)⟩
theorem lw_p7 : lw_okq (⟨"LispMachine$Reader", "openAt", "(I)V"⟩, 14) := ⟨⟨by decide +kernel, by decide +kernel⟩, List.mem_of_getElem? (i := 180) (by decide +kernel), List.mem_of_getElem? (i := 496) (by decide +kernel), List.mem_of_getElem? (i := 497) (by decide +kernel)⟩
theorem lw_p8 : lw_okq (⟨"LispMachine$Reader", "closeList", "()V"⟩, 14) := ⟨⟨by decide +kernel, by decide +kernel⟩, List.mem_of_getElem? (i := 180) (by decide +kernel), List.mem_of_getElem? (i := 500) (by decide +kernel), List.mem_of_getElem? (i := 501) (by decide +kernel)⟩
theorem lw_p9 : lw_okq (⟨"LispMachine$Reader", "finish", "(I)V"⟩, 14) := ⟨⟨by decide +kernel, by decide +kernel⟩, List.mem_of_getElem? (i := 180) (by decide +kernel), List.mem_of_getElem? (i := 513) (by decide +kernel), List.mem_of_getElem? (i := 514) (by decide +kernel)⟩
theorem lw_p10 : lw_okq (⟨"LispMachine$Commands", "evaluate", "(III)I"⟩, 6) := ⟨⟨by decide +kernel, by decide +kernel⟩, List.mem_of_getElem? (i := 322) (by decide +kernel), List.mem_of_getElem? (i := 554) (by decide +kernel), List.mem_of_getElem? (i := 555) (by decide +kernel)⟩
theorem lw_p11 : lw_okq (⟨"LispMachine$Terms", "startWith", "(I)V"⟩, 4) := ⟨⟨by decide +kernel, by decide +kernel⟩, List.mem_of_getElem? (i := 328) (by decide +kernel), List.mem_of_getElem? (i := 562) (by decide +kernel), List.mem_of_getElem? (i := 563) (by decide +kernel)⟩
theorem lw_p12 : lw_okq (⟨"LispMachine$Terms", "takesOf", "(I)I"⟩, 4) := ⟨⟨by decide +kernel, by decide +kernel⟩, List.mem_of_getElem? (i := 328) (by decide +kernel), List.mem_of_getElem? (i := 584) (by decide +kernel), List.mem_of_getElem? (i := 585) (by decide +kernel)⟩
theorem lw_p13 : lw_okq (⟨"LispMachine$Terms", "addTermsOf", "(I)Z"⟩, 4) := ⟨⟨by decide +kernel, by decide +kernel⟩, List.mem_of_getElem? (i := 328) (by decide +kernel), List.mem_of_getElem? (i := 596) (by decide +kernel), List.mem_of_getElem? (i := 597) (by decide +kernel)⟩
theorem lw_p14 : lw_okq (⟨"LispMachine$Evaluator", "evaluateNext", "(ILLispMachine$Call;)V"⟩, 12) := ⟨⟨by decide +kernel, by decide +kernel⟩, List.mem_of_getElem? (i := 273) (by decide +kernel), List.mem_of_getElem? (i := 604) (by decide +kernel), List.mem_of_getElem? (i := 605) (by decide +kernel)⟩
theorem lw_p15 : lw_okq (⟨"LispMachine$Evaluator", "beginTerm", "()V"⟩, 12) := ⟨⟨by decide +kernel, by decide +kernel⟩, List.mem_of_getElem? (i := 273) (by decide +kernel), List.mem_of_getElem? (i := 613) (by decide +kernel), List.mem_of_getElem? (i := 614) (by decide +kernel)⟩
def lw_privs_1 : List (MethodName × Nat) := [(⟨"LispMachine$Store", "hold", "(JII)I"⟩, 6), (⟨"LispMachine$Reader", "behindBlanks", "(II)I"⟩, 14), (⟨"LispMachine$Reader", "behindWord", "(II)I"⟩, 14), (⟨"LispMachine$Reader", "faultOfWord", "(II)I"⟩, 14), (⟨"LispMachine$Reader", "scanAtom", "(II)Z"⟩, 14), (⟨"LispMachine$Reader", "mayStand", "(C)Z"⟩, 14), (⟨"LispMachine$Reader", "take", "(C)V"⟩, 14), (⟨"LispMachine$Reader", "openAt", "(I)V"⟩, 14), (⟨"LispMachine$Reader", "closeList", "()V"⟩, 14), (⟨"LispMachine$Reader", "finish", "(I)V"⟩, 14), (⟨"LispMachine$Commands", "evaluate", "(III)I"⟩, 6), (⟨"LispMachine$Terms", "startWith", "(I)V"⟩, 4), (⟨"LispMachine$Terms", "takesOf", "(I)I"⟩, 4), (⟨"LispMachine$Terms", "addTermsOf", "(I)Z"⟩, 4), (⟨"LispMachine$Evaluator", "evaluateNext", "(ILLispMachine$Call;)V"⟩, 12), (⟨"LispMachine$Evaluator", "beginTerm", "()V"⟩, 12)]
theorem lw_r1 : ∀ q ∈ lw_privs_1, lw_okq q := List.forall_mem_cons.mpr ⟨lw_p0, List.forall_mem_cons.mpr ⟨lw_p1, List.forall_mem_cons.mpr ⟨lw_p2, List.forall_mem_cons.mpr ⟨lw_p3, List.forall_mem_cons.mpr ⟨lw_p4, List.forall_mem_cons.mpr ⟨lw_p5, List.forall_mem_cons.mpr ⟨lw_p6, List.forall_mem_cons.mpr ⟨lw_p7, List.forall_mem_cons.mpr ⟨lw_p8, List.forall_mem_cons.mpr ⟨lw_p9, List.forall_mem_cons.mpr ⟨lw_p10, List.forall_mem_cons.mpr ⟨lw_p11, List.forall_mem_cons.mpr ⟨lw_p12, List.forall_mem_cons.mpr ⟨lw_p13, List.forall_mem_cons.mpr ⟨lw_p14, List.forall_mem_cons.mpr ⟨lw_p15, fun _ h => absurd h List.not_mem_nil⟩⟩⟩⟩⟩⟩⟩⟩⟩⟩⟩⟩⟩⟩⟩⟩
theorem lw_p16 : lw_okq (⟨"LispMachine$Evaluator", "boundValueOf", "(I)I"⟩, 12) := ⟨⟨by decide +kernel, by decide +kernel⟩, List.mem_of_getElem? (i := 273) (by decide +kernel), List.mem_of_getElem? (i := 618) (by decide +kernel), List.mem_of_getElem? (i := 619) (by decide +kernel)⟩
theorem lw_p17 : lw_okq (⟨"LispMachine$Evaluator", "argumentOf", "(LLispMachine$Call;I)I"⟩, 12) := ⟨⟨by decide +kernel, by decide +kernel⟩, List.mem_of_getElem? (i := 273) (by decide +kernel), List.mem_of_getElem? (i := 625) (by decide +kernel), List.mem_of_getElem? (i := 626) (by decide +kernel)⟩
theorem lw_p18 : lw_okq (⟨"LispMachine$Evaluator", "answer", "(I)V"⟩, 12) := ⟨⟨by decide +kernel, by decide +kernel⟩, List.mem_of_getElem? (i := 273) (by decide +kernel), List.mem_of_getElem? (i := 629) (by decide +kernel), List.mem_of_getElem? (i := 630) (by decide +kernel)⟩
theorem lw_p19 : lw_okq (⟨"LispMachine$Evaluator", "openCall", "(II)V"⟩, 12) := ⟨⟨by decide +kernel, by decide +kernel⟩, List.mem_of_getElem? (i := 273) (by decide +kernel), List.mem_of_getElem? (i := 634) (by decide +kernel), List.mem_of_getElem? (i := 635) (by decide +kernel)⟩
theorem lw_p20 : lw_okq (⟨"LispMachine$Evaluator", "handOverValue", "(LLispMachine$Call;)V"⟩, 12) := ⟨⟨by decide +kernel, by decide +kernel⟩, List.mem_of_getElem? (i := 273) (by decide +kernel), List.mem_of_getElem? (i := 676) (by decide +kernel), List.mem_of_getElem? (i := 677) (by decide +kernel)⟩
theorem lw_p21 : lw_okq (⟨"LispMachine$Evaluator", "applyBase", "(LLispMachine$Call;)V"⟩, 12) := ⟨⟨by decide +kernel, by decide +kernel⟩, List.mem_of_getElem? (i := 273) (by decide +kernel), List.mem_of_getElem? (i := 684) (by decide +kernel), List.mem_of_getElem? (i := 685) (by decide +kernel)⟩
theorem lw_p22 : lw_okq (⟨"LispMachine$Commands", "boundVariables", "(I)I"⟩, 6) := ⟨⟨by decide +kernel, by decide +kernel⟩, List.mem_of_getElem? (i := 322) (by decide +kernel), List.mem_of_getElem? (i := 708) (by decide +kernel), List.mem_of_getElem? (i := 709) (by decide +kernel)⟩
theorem lw_p23 : lw_okq (⟨"LispMachine$Commands", "map", "(II)I"⟩, 6) := ⟨⟨by decide +kernel, by decide +kernel⟩, List.mem_of_getElem? (i := 322) (by decide +kernel), List.mem_of_getElem? (i := 716) (by decide +kernel), List.mem_of_getElem? (i := 717) (by decide +kernel)⟩
theorem lw_p24 : lw_okq (⟨"LispMachine$Commands", "isFunctionName", "(I)Z"⟩, 6) := ⟨⟨by decide +kernel, by decide +kernel⟩, List.mem_of_getElem? (i := 322) (by decide +kernel), List.mem_of_getElem? (i := 720) (by decide +kernel), List.mem_of_getElem? (i := 721) (by decide +kernel)⟩
theorem lw_p25 : lw_okq (⟨"LispMachine$Commands", "reversed", "(II)I"⟩, 6) := ⟨⟨by decide +kernel, by decide +kernel⟩, List.mem_of_getElem? (i := 322) (by decide +kernel), List.mem_of_getElem? (i := 730) (by decide +kernel), List.mem_of_getElem? (i := 731) (by decide +kernel)⟩
theorem lw_p26 : lw_okq (⟨"LispMachine$Commands", "define", "(III)I"⟩, 6) := ⟨⟨by decide +kernel, by decide +kernel⟩, List.mem_of_getElem? (i := 322) (by decide +kernel), List.mem_of_getElem? (i := 738) (by decide +kernel), List.mem_of_getElem? (i := 739) (by decide +kernel)⟩
theorem lw_p27 : lw_okq (⟨"LispMachine$Commands", "isDefinition", "(III)Z"⟩, 6) := ⟨⟨by decide +kernel, by decide +kernel⟩, List.mem_of_getElem? (i := 322) (by decide +kernel), List.mem_of_getElem? (i := 742) (by decide +kernel), List.mem_of_getElem? (i := 743) (by decide +kernel)⟩
theorem lw_p28 : lw_okq (⟨"LispMachine$Commands", "areParameters", "(I)Z"⟩, 6) := ⟨⟨by decide +kernel, by decide +kernel⟩, List.mem_of_getElem? (i := 322) (by decide +kernel), List.mem_of_getElem? (i := 746) (by decide +kernel), List.mem_of_getElem? (i := 747) (by decide +kernel)⟩
theorem lw_p29 : lw_okq (⟨"LispMachine$Commands", "defineAnew", "(III)I"⟩, 6) := ⟨⟨by decide +kernel, by decide +kernel⟩, List.mem_of_getElem? (i := 322) (by decide +kernel), List.mem_of_getElem? (i := 787) (by decide +kernel), List.mem_of_getElem? (i := 788) (by decide +kernel)⟩
theorem lw_p30 : lw_okq (⟨"LispMachine$Commands", "undo", "()I"⟩, 6) := ⟨⟨by decide +kernel, by decide +kernel⟩, List.mem_of_getElem? (i := 322) (by decide +kernel), List.mem_of_getElem? (i := 791) (by decide +kernel), List.mem_of_getElem? (i := 792) (by decide +kernel)⟩
theorem lw_p31 : lw_okq (⟨"LispMachine$Terms", "gather", "(I)V"⟩, 4) := ⟨⟨by decide +kernel, by decide +kernel⟩, List.mem_of_getElem? (i := 328) (by decide +kernel), List.mem_of_getElem? (i := 803) (by decide +kernel), List.mem_of_getElem? (i := 804) (by decide +kernel)⟩
def lw_privs_2 : List (MethodName × Nat) := [(⟨"LispMachine$Evaluator", "boundValueOf", "(I)I"⟩, 12), (⟨"LispMachine$Evaluator", "argumentOf", "(LLispMachine$Call;I)I"⟩, 12), (⟨"LispMachine$Evaluator", "answer", "(I)V"⟩, 12), (⟨"LispMachine$Evaluator", "openCall", "(II)V"⟩, 12), (⟨"LispMachine$Evaluator", "handOverValue", "(LLispMachine$Call;)V"⟩, 12), (⟨"LispMachine$Evaluator", "applyBase", "(LLispMachine$Call;)V"⟩, 12), (⟨"LispMachine$Commands", "boundVariables", "(I)I"⟩, 6), (⟨"LispMachine$Commands", "map", "(II)I"⟩, 6), (⟨"LispMachine$Commands", "isFunctionName", "(I)Z"⟩, 6), (⟨"LispMachine$Commands", "reversed", "(II)I"⟩, 6), (⟨"LispMachine$Commands", "define", "(III)I"⟩, 6), (⟨"LispMachine$Commands", "isDefinition", "(III)Z"⟩, 6), (⟨"LispMachine$Commands", "areParameters", "(I)Z"⟩, 6), (⟨"LispMachine$Commands", "defineAnew", "(III)I"⟩, 6), (⟨"LispMachine$Commands", "undo", "()I"⟩, 6), (⟨"LispMachine$Terms", "gather", "(I)V"⟩, 4)]
theorem lw_r2 : ∀ q ∈ lw_privs_2, lw_okq q := List.forall_mem_cons.mpr ⟨lw_p16, List.forall_mem_cons.mpr ⟨lw_p17, List.forall_mem_cons.mpr ⟨lw_p18, List.forall_mem_cons.mpr ⟨lw_p19, List.forall_mem_cons.mpr ⟨lw_p20, List.forall_mem_cons.mpr ⟨lw_p21, List.forall_mem_cons.mpr ⟨lw_p22, List.forall_mem_cons.mpr ⟨lw_p23, List.forall_mem_cons.mpr ⟨lw_p24, List.forall_mem_cons.mpr ⟨lw_p25, List.forall_mem_cons.mpr ⟨lw_p26, List.forall_mem_cons.mpr ⟨lw_p27, List.forall_mem_cons.mpr ⟨lw_p28, List.forall_mem_cons.mpr ⟨lw_p29, List.forall_mem_cons.mpr ⟨lw_p30, List.forall_mem_cons.mpr ⟨lw_p31, fun _ h => absurd h List.not_mem_nil⟩⟩⟩⟩⟩⟩⟩⟩⟩⟩⟩⟩⟩⟩⟩⟩
theorem lw_p32 : lw_okq (⟨"LispMachine$Terms", "isCall", "(I)Z"⟩, 4) := ⟨⟨by decide +kernel, by decide +kernel⟩, List.mem_of_getElem? (i := 328) (by decide +kernel), List.mem_of_getElem? (i := 807) (by decide +kernel), List.mem_of_getElem? (i := 808) (by decide +kernel)⟩
theorem lw_p33 : lw_okq (⟨"LispMachine$Commands", "show", "(I)I"⟩, 6) := ⟨⟨by decide +kernel, by decide +kernel⟩, List.mem_of_getElem? (i := 322) (by decide +kernel), List.mem_of_getElem? (i := 815) (by decide +kernel), List.mem_of_getElem? (i := 816) (by decide +kernel)⟩
theorem lw_p34 : lw_okq (⟨"LispMachine$Terms", "listOfParts", "(II)I"⟩, 4) := ⟨⟨by decide +kernel, by decide +kernel⟩, List.mem_of_getElem? (i := 328) (by decide +kernel), List.mem_of_getElem? (i := 823) (by decide +kernel), List.mem_of_getElem? (i := 824) (by decide +kernel)⟩
theorem lw_p35 : lw_okq (⟨"LispMachine$Terms", "isPlainConstant", "(I)Z"⟩, 4) := ⟨⟨by decide +kernel, by decide +kernel⟩, List.mem_of_getElem? (i := 328) (by decide +kernel), List.mem_of_getElem? (i := 829) (by decide +kernel), List.mem_of_getElem? (i := 830) (by decide +kernel)⟩
theorem lw_p36 : lw_okq (⟨"LispMachine$Teller", "beginObject", "(I)I"⟩, 5) := ⟨⟨by decide +kernel, by decide +kernel⟩, List.mem_of_getElem? (i := 233) (by decide +kernel), List.mem_of_getElem? (i := 838) (by decide +kernel), List.mem_of_getElem? (i := 839) (by decide +kernel)⟩
theorem lw_p37 : lw_okq (⟨"LispMachine$Teller", "put", "(C)V"⟩, 5) := ⟨⟨by decide +kernel, by decide +kernel⟩, List.mem_of_getElem? (i := 233) (by decide +kernel), List.mem_of_getElem? (i := 843) (by decide +kernel), List.mem_of_getElem? (i := 844) (by decide +kernel)⟩
theorem lw_p38 : lw_okq (⟨"LispMachine$Teller", "beginRest", "(I)I"⟩, 5) := ⟨⟨by decide +kernel, by decide +kernel⟩, List.mem_of_getElem? (i := 233) (by decide +kernel), List.mem_of_getElem? (i := 849) (by decide +kernel), List.mem_of_getElem? (i := 850) (by decide +kernel)⟩
theorem lw_p39 : lw_okq (⟨"LispMachine$Teller", "putAtom", "(I)V"⟩, 5) := ⟨⟨by decide +kernel, by decide +kernel⟩, List.mem_of_getElem? (i := 233) (by decide +kernel), List.mem_of_getElem? (i := 855) (by decide +kernel), List.mem_of_getElem? (i := 856) (by decide +kernel)⟩
theorem lw_p40 : lw_okq (⟨"LispMachine$Teller", "putNatural", "(J)V"⟩, 5) := ⟨⟨by decide +kernel, by decide +kernel⟩, List.mem_of_getElem? (i := 233) (by decide +kernel), List.mem_of_getElem? (i := 861) (by decide +kernel), List.mem_of_getElem? (i := 862) (by decide +kernel)⟩
theorem lw_p41 : lw_okq (⟨"LispMachine$Teller", "putSymbol", "(J)V"⟩, 5) := ⟨⟨by decide +kernel, by decide +kernel⟩, List.mem_of_getElem? (i := 233) (by decide +kernel), List.mem_of_getElem? (i := 872) (by decide +kernel), List.mem_of_getElem? (i := 873) (by decide +kernel)⟩
theorem lw_p42 : lw_okq (⟨"LispMachine$Teller", "goOn", "()I"⟩, 5) := ⟨⟨by decide +kernel, by decide +kernel⟩, List.mem_of_getElem? (i := 233) (by decide +kernel), List.mem_of_getElem? (i := 880) (by decide +kernel), List.mem_of_getElem? (i := 881) (by decide +kernel)⟩
theorem lw_p43 : lw_okq (⟨"LispMachineModel", "said", "(IIIIIIII)V"⟩, 70) := ⟨⟨by decide +kernel, by decide +kernel⟩, List.mem_of_getElem? (i := 908) (by decide +kernel), List.mem_of_getElem? (i := 916) (by decide +kernel), List.mem_of_getElem? (i := 917) (by decide +kernel)⟩
theorem lw_p44 : lw_okq (⟨"LispMachineModel", "spell", "(I)V"⟩, 70) := ⟨⟨by decide +kernel, by decide +kernel⟩, List.mem_of_getElem? (i := 908) (by decide +kernel), List.mem_of_getElem? (i := 920) (by decide +kernel), List.mem_of_getElem? (i := 921) (by decide +kernel)⟩
theorem lw_p45 : lw_okq (⟨"LispMachineModel", "symbol", "()I"⟩, 70) := ⟨⟨by decide +kernel, by decide +kernel⟩, List.mem_of_getElem? (i := 908) (by decide +kernel), List.mem_of_getElem? (i := 924) (by decide +kernel), List.mem_of_getElem? (i := 925) (by decide +kernel)⟩
theorem lw_p46 : lw_okq (⟨"LispMachineModel", "spelled", "(IIZ)I"⟩, 70) := ⟨⟨by decide +kernel, by decide +kernel⟩, List.mem_of_getElem? (i := 908) (by decide +kernel), List.mem_of_getElem? (i := 928) (by decide +kernel), List.mem_of_getElem? (i := 929) (by decide +kernel)⟩
theorem lw_p47 : lw_okq (⟨"LispMachineModel", "isWord", "(I)Z"⟩, 70) := ⟨⟨by decide +kernel, by decide +kernel⟩, List.mem_of_getElem? (i := 908) (by decide +kernel), List.mem_of_getElem? (i := 932) (by decide +kernel), List.mem_of_getElem? (i := 933) (by decide +kernel)⟩
def lw_privs_3 : List (MethodName × Nat) := [(⟨"LispMachine$Terms", "isCall", "(I)Z"⟩, 4), (⟨"LispMachine$Commands", "show", "(I)I"⟩, 6), (⟨"LispMachine$Terms", "listOfParts", "(II)I"⟩, 4), (⟨"LispMachine$Terms", "isPlainConstant", "(I)Z"⟩, 4), (⟨"LispMachine$Teller", "beginObject", "(I)I"⟩, 5), (⟨"LispMachine$Teller", "put", "(C)V"⟩, 5), (⟨"LispMachine$Teller", "beginRest", "(I)I"⟩, 5), (⟨"LispMachine$Teller", "putAtom", "(I)V"⟩, 5), (⟨"LispMachine$Teller", "putNatural", "(J)V"⟩, 5), (⟨"LispMachine$Teller", "putSymbol", "(J)V"⟩, 5), (⟨"LispMachine$Teller", "goOn", "()I"⟩, 5), (⟨"LispMachineModel", "said", "(IIIIIIII)V"⟩, 70), (⟨"LispMachineModel", "spell", "(I)V"⟩, 70), (⟨"LispMachineModel", "symbol", "()I"⟩, 70), (⟨"LispMachineModel", "spelled", "(IIZ)I"⟩, 70), (⟨"LispMachineModel", "isWord", "(I)Z"⟩, 70)]
theorem lw_r3 : ∀ q ∈ lw_privs_3, lw_okq q := List.forall_mem_cons.mpr ⟨lw_p32, List.forall_mem_cons.mpr ⟨lw_p33, List.forall_mem_cons.mpr ⟨lw_p34, List.forall_mem_cons.mpr ⟨lw_p35, List.forall_mem_cons.mpr ⟨lw_p36, List.forall_mem_cons.mpr ⟨lw_p37, List.forall_mem_cons.mpr ⟨lw_p38, List.forall_mem_cons.mpr ⟨lw_p39, List.forall_mem_cons.mpr ⟨lw_p40, List.forall_mem_cons.mpr ⟨lw_p41, List.forall_mem_cons.mpr ⟨lw_p42, List.forall_mem_cons.mpr ⟨lw_p43, List.forall_mem_cons.mpr ⟨lw_p44, List.forall_mem_cons.mpr ⟨lw_p45, List.forall_mem_cons.mpr ⟨lw_p46, List.forall_mem_cons.mpr ⟨lw_p47, fun _ h => absurd h List.not_mem_nil⟩⟩⟩⟩⟩⟩⟩⟩⟩⟩⟩⟩⟩⟩⟩⟩
theorem lw_p48 : lw_okq (⟨"LispMachineModel", "added", "(III)I"⟩, 70) := ⟨⟨by decide +kernel, by decide +kernel⟩, List.mem_of_getElem? (i := 908) (by decide +kernel), List.mem_of_getElem? (i := 936) (by decide +kernel), List.mem_of_getElem? (i := 937) (by decide +kernel)⟩
theorem lw_p49 : lw_okq (⟨"LispMachineModel", "reads", "()Z"⟩, 70) := ⟨⟨by decide +kernel, by decide +kernel⟩, List.mem_of_getElem? (i := 908) (by decide +kernel), List.mem_of_getElem? (i := 1168) (by decide +kernel), List.mem_of_getElem? (i := 1169) (by decide +kernel)⟩
theorem lw_p50 : lw_okq (⟨"LispMachineModel", "skip", "()V"⟩, 70) := ⟨⟨by decide +kernel, by decide +kernel⟩, List.mem_of_getElem? (i := 908) (by decide +kernel), List.mem_of_getElem? (i := 1172) (by decide +kernel), List.mem_of_getElem? (i := 1173) (by decide +kernel)⟩
theorem lw_p51 : lw_okq (⟨"LispMachineModel", "readWord", "(I)V"⟩, 70) := ⟨⟨by decide +kernel, by decide +kernel⟩, List.mem_of_getElem? (i := 908) (by decide +kernel), List.mem_of_getElem? (i := 1176) (by decide +kernel), List.mem_of_getElem? (i := 1177) (by decide +kernel)⟩
theorem lw_p52 : lw_okq (⟨"LispMachineModel", "mayBegin", "()Z"⟩, 70) := ⟨⟨by decide +kernel, by decide +kernel⟩, List.mem_of_getElem? (i := 908) (by decide +kernel), List.mem_of_getElem? (i := 1180) (by decide +kernel), List.mem_of_getElem? (i := 1181) (by decide +kernel)⟩
theorem lw_p53 : lw_okq (⟨"LispMachineModel", "bad", "(II)V"⟩, 70) := ⟨⟨by decide +kernel, by decide +kernel⟩, List.mem_of_getElem? (i := 908) (by decide +kernel), List.mem_of_getElem? (i := 1184) (by decide +kernel), List.mem_of_getElem? (i := 1185) (by decide +kernel)⟩
theorem lw_p54 : lw_okq (⟨"LispMachineModel", "begin", "(I)V"⟩, 70) := ⟨⟨by decide +kernel, by decide +kernel⟩, List.mem_of_getElem? (i := 908) (by decide +kernel), List.mem_of_getElem? (i := 1188) (by decide +kernel), List.mem_of_getElem? (i := 1189) (by decide +kernel)⟩
theorem lw_p55 : lw_okq (⟨"LispMachineModel", "isInList", "()Z"⟩, 70) := ⟨⟨by decide +kernel, by decide +kernel⟩, List.mem_of_getElem? (i := 908) (by decide +kernel), List.mem_of_getElem? (i := 1192) (by decide +kernel), List.mem_of_getElem? (i := 1193) (by decide +kernel)⟩
theorem lw_p56 : lw_okq (⟨"LispMachineModel", "close", "()V"⟩, 70) := ⟨⟨by decide +kernel, by decide +kernel⟩, List.mem_of_getElem? (i := 908) (by decide +kernel), List.mem_of_getElem? (i := 1196) (by decide +kernel), List.mem_of_getElem? (i := 1197) (by decide +kernel)⟩
theorem lw_p57 : lw_okq (⟨"LispMachineModel", "pair", "(II)I"⟩, 70) := ⟨⟨by decide +kernel, by decide +kernel⟩, List.mem_of_getElem? (i := 908) (by decide +kernel), List.mem_of_getElem? (i := 1200) (by decide +kernel), List.mem_of_getElem? (i := 1201) (by decide +kernel)⟩
theorem lw_p58 : lw_okq (⟨"LispMachineModel", "deliver", "(I)V"⟩, 70) := ⟨⟨by decide +kernel, by decide +kernel⟩, List.mem_of_getElem? (i := 908) (by decide +kernel), List.mem_of_getElem? (i := 1208) (by decide +kernel), List.mem_of_getElem? (i := 1209) (by decide +kernel)⟩
theorem lw_p59 : lw_okq (⟨"LispMachineModel", "list2", "(II)I"⟩, 70) := ⟨⟨by decide +kernel, by decide +kernel⟩, List.mem_of_getElem? (i := 908) (by decide +kernel), List.mem_of_getElem? (i := 1212) (by decide +kernel), List.mem_of_getElem? (i := 1213) (by decide +kernel)⟩
theorem lw_p60 : lw_okq (⟨"LispMachineModel", "list1", "(I)I"⟩, 70) := ⟨⟨by decide +kernel, by decide +kernel⟩, List.mem_of_getElem? (i := 908) (by decide +kernel), List.mem_of_getElem? (i := 1216) (by decide +kernel), List.mem_of_getElem? (i := 1217) (by decide +kernel)⟩
theorem lw_p61 : lw_okq (⟨"LispMachineModel", "atom", "(II)I"⟩, 70) := ⟨⟨by decide +kernel, by decide +kernel⟩, List.mem_of_getElem? (i := 908) (by decide +kernel), List.mem_of_getElem? (i := 1226) (by decide +kernel), List.mem_of_getElem? (i := 1227) (by decide +kernel)⟩
theorem lw_p62 : lw_okq (⟨"LispMachineModel", "natural", "(J)I"⟩, 70) := ⟨⟨by decide +kernel, by decide +kernel⟩, List.mem_of_getElem? (i := 908) (by decide +kernel), List.mem_of_getElem? (i := 1233) (by decide +kernel), List.mem_of_getElem? (i := 1234) (by decide +kernel)⟩
theorem lw_p63 : lw_okq (⟨"LispMachineModel", "command", "(I)I"⟩, 70) := ⟨⟨by decide +kernel, by decide +kernel⟩, List.mem_of_getElem? (i := 908) (by decide +kernel), List.mem_of_getElem? (i := 1237) (by decide +kernel), List.mem_of_getElem? (i := 1238) (by decide +kernel)⟩
def lw_privs_4 : List (MethodName × Nat) := [(⟨"LispMachineModel", "added", "(III)I"⟩, 70), (⟨"LispMachineModel", "reads", "()Z"⟩, 70), (⟨"LispMachineModel", "skip", "()V"⟩, 70), (⟨"LispMachineModel", "readWord", "(I)V"⟩, 70), (⟨"LispMachineModel", "mayBegin", "()Z"⟩, 70), (⟨"LispMachineModel", "bad", "(II)V"⟩, 70), (⟨"LispMachineModel", "begin", "(I)V"⟩, 70), (⟨"LispMachineModel", "isInList", "()Z"⟩, 70), (⟨"LispMachineModel", "close", "()V"⟩, 70), (⟨"LispMachineModel", "pair", "(II)I"⟩, 70), (⟨"LispMachineModel", "deliver", "(I)V"⟩, 70), (⟨"LispMachineModel", "list2", "(II)I"⟩, 70), (⟨"LispMachineModel", "list1", "(I)I"⟩, 70), (⟨"LispMachineModel", "atom", "(II)I"⟩, 70), (⟨"LispMachineModel", "natural", "(J)I"⟩, 70), (⟨"LispMachineModel", "command", "(I)I"⟩, 70)]
theorem lw_r4 : ∀ q ∈ lw_privs_4, lw_okq q := List.forall_mem_cons.mpr ⟨lw_p48, List.forall_mem_cons.mpr ⟨lw_p49, List.forall_mem_cons.mpr ⟨lw_p50, List.forall_mem_cons.mpr ⟨lw_p51, List.forall_mem_cons.mpr ⟨lw_p52, List.forall_mem_cons.mpr ⟨lw_p53, List.forall_mem_cons.mpr ⟨lw_p54, List.forall_mem_cons.mpr ⟨lw_p55, List.forall_mem_cons.mpr ⟨lw_p56, List.forall_mem_cons.mpr ⟨lw_p57, List.forall_mem_cons.mpr ⟨lw_p58, List.forall_mem_cons.mpr ⟨lw_p59, List.forall_mem_cons.mpr ⟨lw_p60, List.forall_mem_cons.mpr ⟨lw_p61, List.forall_mem_cons.mpr ⟨lw_p62, List.forall_mem_cons.mpr ⟨lw_p63, fun _ h => absurd h List.not_mem_nil⟩⟩⟩⟩⟩⟩⟩⟩⟩⟩⟩⟩⟩⟩⟩⟩
theorem lw_p64 : lw_okq (⟨"LispMachineModel", "isPair", "(I)Z"⟩, 70) := ⟨⟨by decide +kernel, by decide +kernel⟩, List.mem_of_getElem? (i := 908) (by decide +kernel), List.mem_of_getElem? (i := 1241) (by decide +kernel), List.mem_of_getElem? (i := 1242) (by decide +kernel)⟩
theorem lw_p65 : lw_okq (⟨"LispMachineModel", "eval", "(I)I"⟩, 70) := ⟨⟨by decide +kernel, by decide +kernel⟩, List.mem_of_getElem? (i := 908) (by decide +kernel), List.mem_of_getElem? (i := 1245) (by decide +kernel), List.mem_of_getElem? (i := 1246) (by decide +kernel)⟩
theorem lw_p66 : lw_okq (⟨"LispMachineModel", "lengthOf", "(I)I"⟩, 70) := ⟨⟨by decide +kernel, by decide +kernel⟩, List.mem_of_getElem? (i := 908) (by decide +kernel), List.mem_of_getElem? (i := 1249) (by decide +kernel), List.mem_of_getElem? (i := 1250) (by decide +kernel)⟩
theorem lw_p67 : lw_okq (⟨"LispMachineModel", "nth", "(II)I"⟩, 70) := ⟨⟨by decide +kernel, by decide +kernel⟩, List.mem_of_getElem? (i := 908) (by decide +kernel), List.mem_of_getElem? (i := 1253) (by decide +kernel), List.mem_of_getElem? (i := 1254) (by decide +kernel)⟩
theorem lw_p68 : lw_okq (⟨"LispMachineModel", "termOf", "(I)I"⟩, 70) := ⟨⟨by decide +kernel, by decide +kernel⟩, List.mem_of_getElem? (i := 908) (by decide +kernel), List.mem_of_getElem? (i := 1257) (by decide +kernel), List.mem_of_getElem? (i := 1258) (by decide +kernel)⟩
theorem lw_p69 : lw_okq (⟨"LispMachineModel", "beginTerm", "(I)Z"⟩, 70) := ⟨⟨by decide +kernel, by decide +kernel⟩, List.mem_of_getElem? (i := 908) (by decide +kernel), List.mem_of_getElem? (i := 1261) (by decide +kernel), List.mem_of_getElem? (i := 1262) (by decide +kernel)⟩
theorem lw_p70 : lw_okq (⟨"LispMachineModel", "build", "(I)V"⟩, 70) := ⟨⟨by decide +kernel, by decide +kernel⟩, List.mem_of_getElem? (i := 908) (by decide +kernel), List.mem_of_getElem? (i := 1265) (by decide +kernel), List.mem_of_getElem? (i := 1266) (by decide +kernel)⟩
theorem lw_p71 : lw_okq (⟨"LispMachineModel", "isQuoted", "(I)Z"⟩, 70) := ⟨⟨by decide +kernel, by decide +kernel⟩, List.mem_of_getElem? (i := 908) (by decide +kernel), List.mem_of_getElem? (i := 1269) (by decide +kernel), List.mem_of_getElem? (i := 1270) (by decide +kernel)⟩
theorem lw_p72 : lw_okq (⟨"LispMachineModel", "constantOf", "(I)I"⟩, 70) := ⟨⟨by decide +kernel, by decide +kernel⟩, List.mem_of_getElem? (i := 908) (by decide +kernel), List.mem_of_getElem? (i := 1273) (by decide +kernel), List.mem_of_getElem? (i := 1274) (by decide +kernel)⟩
theorem lw_p73 : lw_okq (⟨"LispMachineModel", "isNatural", "(I)Z"⟩, 70) := ⟨⟨by decide +kernel, by decide +kernel⟩, List.mem_of_getElem? (i := 908) (by decide +kernel), List.mem_of_getElem? (i := 1277) (by decide +kernel), List.mem_of_getElem? (i := 1278) (by decide +kernel)⟩
theorem lw_p74 : lw_okq (⟨"LispMachineModel", "isSymbol", "(I)Z"⟩, 70) := ⟨⟨by decide +kernel, by decide +kernel⟩, List.mem_of_getElem? (i := 908) (by decide +kernel), List.mem_of_getElem? (i := 1281) (by decide +kernel), List.mem_of_getElem? (i := 1282) (by decide +kernel)⟩
theorem lw_p75 : lw_okq (⟨"LispMachineModel", "functionOf", "(I)I"⟩, 70) := ⟨⟨by decide +kernel, by decide +kernel⟩, List.mem_of_getElem? (i := 908) (by decide +kernel), List.mem_of_getElem? (i := 1285) (by decide +kernel), List.mem_of_getElem? (i := 1286) (by decide +kernel)⟩
theorem lw_p76 : lw_okq (⟨"LispMachineModel", "manyOf", "(I)I"⟩, 70) := ⟨⟨by decide +kernel, by decide +kernel⟩, List.mem_of_getElem? (i := 908) (by decide +kernel), List.mem_of_getElem? (i := 1289) (by decide +kernel), List.mem_of_getElem? (i := 1290) (by decide +kernel)⟩
theorem lw_p77 : lw_okq (⟨"LispMachineModel", "openCall", "(I)V"⟩, 70) := ⟨⟨by decide +kernel, by decide +kernel⟩, List.mem_of_getElem? (i := 908) (by decide +kernel), List.mem_of_getElem? (i := 1293) (by decide +kernel), List.mem_of_getElem? (i := 1294) (by decide +kernel)⟩
theorem lw_p78 : lw_okq (⟨"LispMachineModel", "callFrom", "(II)I"⟩, 70) := ⟨⟨by decide +kernel, by decide +kernel⟩, List.mem_of_getElem? (i := 908) (by decide +kernel), List.mem_of_getElem? (i := 1297) (by decide +kernel), List.mem_of_getElem? (i := 1298) (by decide +kernel)⟩
theorem lw_p79 : lw_okq (⟨"LispMachineModel", "sizeOf", "(I)I"⟩, 70) := ⟨⟨by decide +kernel, by decide +kernel⟩, List.mem_of_getElem? (i := 908) (by decide +kernel), List.mem_of_getElem? (i := 1301) (by decide +kernel), List.mem_of_getElem? (i := 1302) (by decide +kernel)⟩
def lw_privs_5 : List (MethodName × Nat) := [(⟨"LispMachineModel", "isPair", "(I)Z"⟩, 70), (⟨"LispMachineModel", "eval", "(I)I"⟩, 70), (⟨"LispMachineModel", "lengthOf", "(I)I"⟩, 70), (⟨"LispMachineModel", "nth", "(II)I"⟩, 70), (⟨"LispMachineModel", "termOf", "(I)I"⟩, 70), (⟨"LispMachineModel", "beginTerm", "(I)Z"⟩, 70), (⟨"LispMachineModel", "build", "(I)V"⟩, 70), (⟨"LispMachineModel", "isQuoted", "(I)Z"⟩, 70), (⟨"LispMachineModel", "constantOf", "(I)I"⟩, 70), (⟨"LispMachineModel", "isNatural", "(I)Z"⟩, 70), (⟨"LispMachineModel", "isSymbol", "(I)Z"⟩, 70), (⟨"LispMachineModel", "functionOf", "(I)I"⟩, 70), (⟨"LispMachineModel", "manyOf", "(I)I"⟩, 70), (⟨"LispMachineModel", "openCall", "(I)V"⟩, 70), (⟨"LispMachineModel", "callFrom", "(II)I"⟩, 70), (⟨"LispMachineModel", "sizeOf", "(I)I"⟩, 70)]
theorem lw_r5 : ∀ q ∈ lw_privs_5, lw_okq q := List.forall_mem_cons.mpr ⟨lw_p64, List.forall_mem_cons.mpr ⟨lw_p65, List.forall_mem_cons.mpr ⟨lw_p66, List.forall_mem_cons.mpr ⟨lw_p67, List.forall_mem_cons.mpr ⟨lw_p68, List.forall_mem_cons.mpr ⟨lw_p69, List.forall_mem_cons.mpr ⟨lw_p70, List.forall_mem_cons.mpr ⟨lw_p71, List.forall_mem_cons.mpr ⟨lw_p72, List.forall_mem_cons.mpr ⟨lw_p73, List.forall_mem_cons.mpr ⟨lw_p74, List.forall_mem_cons.mpr ⟨lw_p75, List.forall_mem_cons.mpr ⟨lw_p76, List.forall_mem_cons.mpr ⟨lw_p77, List.forall_mem_cons.mpr ⟨lw_p78, List.forall_mem_cons.mpr ⟨lw_p79, fun _ h => absurd h List.not_mem_nil⟩⟩⟩⟩⟩⟩⟩⟩⟩⟩⟩⟩⟩⟩⟩⟩
theorem lw_p80 : lw_okq (⟨"LispMachineModel", "isCall", "(I)Z"⟩, 70) := ⟨⟨by decide +kernel, by decide +kernel⟩, List.mem_of_getElem? (i := 908) (by decide +kernel), List.mem_of_getElem? (i := 1305) (by decide +kernel), List.mem_of_getElem? (i := 1306) (by decide +kernel)⟩
theorem lw_p81 : lw_okq (⟨"LispMachineModel", "hasOnly", "(II)Z"⟩, 70) := ⟨⟨by decide +kernel, by decide +kernel⟩, List.mem_of_getElem? (i := 908) (by decide +kernel), List.mem_of_getElem? (i := 1309) (by decide +kernel), List.mem_of_getElem? (i := 1310) (by decide +kernel)⟩
theorem lw_p82 : lw_okq (⟨"LispMachineModel", "variablesOf", "(I)V"⟩, 70) := ⟨⟨by decide +kernel, by decide +kernel⟩, List.mem_of_getElem? (i := 908) (by decide +kernel), List.mem_of_getElem? (i := 1313) (by decide +kernel), List.mem_of_getElem? (i := 1314) (by decide +kernel)⟩
theorem lw_p83 : lw_okq (⟨"LispMachineModel", "walkTo", "(I)V"⟩, 70) := ⟨⟨by decide +kernel, by decide +kernel⟩, List.mem_of_getElem? (i := 908) (by decide +kernel), List.mem_of_getElem? (i := 1317) (by decide +kernel), List.mem_of_getElem? (i := 1318) (by decide +kernel)⟩
theorem lw_p84 : lw_okq (⟨"LispMachineModel", "walkOn", "()I"⟩, 70) := ⟨⟨by decide +kernel, by decide +kernel⟩, List.mem_of_getElem? (i := 908) (by decide +kernel), List.mem_of_getElem? (i := 1321) (by decide +kernel), List.mem_of_getElem? (i := 1322) (by decide +kernel)⟩
theorem lw_p85 : lw_okq (⟨"LispMachineModel", "isVariable", "(I)Z"⟩, 70) := ⟨⟨by decide +kernel, by decide +kernel⟩, List.mem_of_getElem? (i := 908) (by decide +kernel), List.mem_of_getElem? (i := 1325) (by decide +kernel), List.mem_of_getElem? (i := 1326) (by decide +kernel)⟩
theorem lw_p86 : lw_okq (⟨"LispMachineModel", "isIn", "(II)Z"⟩, 70) := ⟨⟨by decide +kernel, by decide +kernel⟩, List.mem_of_getElem? (i := 908) (by decide +kernel), List.mem_of_getElem? (i := 1329) (by decide +kernel), List.mem_of_getElem? (i := 1330) (by decide +kernel)⟩
theorem lw_p87 : lw_okq (⟨"LispMachineModel", "toldValue", "(I)I"⟩, 70) := ⟨⟨by decide +kernel, by decide +kernel⟩, List.mem_of_getElem? (i := 908) (by decide +kernel), List.mem_of_getElem? (i := 1333) (by decide +kernel), List.mem_of_getElem? (i := 1334) (by decide +kernel)⟩
theorem lw_p88 : lw_okq (⟨"LispMachineModel", "evaluated", "(IZ)I"⟩, 70) := ⟨⟨by decide +kernel, by decide +kernel⟩, List.mem_of_getElem? (i := 908) (by decide +kernel), List.mem_of_getElem? (i := 1337) (by decide +kernel), List.mem_of_getElem? (i := 1338) (by decide +kernel)⟩
theorem lw_p89 : lw_okq (⟨"LispMachineModel", "beginEval", "(IIIZ)V"⟩, 70) := ⟨⟨by decide +kernel, by decide +kernel⟩, List.mem_of_getElem? (i := 908) (by decide +kernel), List.mem_of_getElem? (i := 1341) (by decide +kernel), List.mem_of_getElem? (i := 1342) (by decide +kernel)⟩
theorem lw_p90 : lw_okq (⟨"LispMachineModel", "isConstant", "(I)Z"⟩, 70) := ⟨⟨by decide +kernel, by decide +kernel⟩, List.mem_of_getElem? (i := 908) (by decide +kernel), List.mem_of_getElem? (i := 1345) (by decide +kernel), List.mem_of_getElem? (i := 1346) (by decide +kernel)⟩
theorem lw_p91 : lw_okq (⟨"LispMachineModel", "valueOf", "(I)I"⟩, 70) := ⟨⟨by decide +kernel, by decide +kernel⟩, List.mem_of_getElem? (i := 908) (by decide +kernel), List.mem_of_getElem? (i := 1349) (by decide +kernel), List.mem_of_getElem? (i := 1350) (by decide +kernel)⟩
theorem lw_p92 : lw_okq (⟨"LispMachineModel", "takeValue", "(Z)V"⟩, 70) := ⟨⟨by decide +kernel, by decide +kernel⟩, List.mem_of_getElem? (i := 908) (by decide +kernel), List.mem_of_getElem? (i := 1353) (by decide +kernel), List.mem_of_getElem? (i := 1354) (by decide +kernel)⟩
theorem lw_p93 : lw_okq (⟨"LispMachineModel", "term", "(II)I"⟩, 70) := ⟨⟨by decide +kernel, by decide +kernel⟩, List.mem_of_getElem? (i := 908) (by decide +kernel), List.mem_of_getElem? (i := 1357) (by decide +kernel), List.mem_of_getElem? (i := 1358) (by decide +kernel)⟩
theorem lw_p94 : lw_okq (⟨"LispMachineModel", "goOn", "(Z)V"⟩, 70) := ⟨⟨by decide +kernel, by decide +kernel⟩, List.mem_of_getElem? (i := 908) (by decide +kernel), List.mem_of_getElem? (i := 1361) (by decide +kernel), List.mem_of_getElem? (i := 1362) (by decide +kernel)⟩
theorem lw_p95 : lw_okq (⟨"LispMachineModel", "basic", "(II)I"⟩, 70) := ⟨⟨by decide +kernel, by decide +kernel⟩, List.mem_of_getElem? (i := 908) (by decide +kernel), List.mem_of_getElem? (i := 1365) (by decide +kernel), List.mem_of_getElem? (i := 1366) (by decide +kernel)⟩
def lw_privs_6 : List (MethodName × Nat) := [(⟨"LispMachineModel", "isCall", "(I)Z"⟩, 70), (⟨"LispMachineModel", "hasOnly", "(II)Z"⟩, 70), (⟨"LispMachineModel", "variablesOf", "(I)V"⟩, 70), (⟨"LispMachineModel", "walkTo", "(I)V"⟩, 70), (⟨"LispMachineModel", "walkOn", "()I"⟩, 70), (⟨"LispMachineModel", "isVariable", "(I)Z"⟩, 70), (⟨"LispMachineModel", "isIn", "(II)Z"⟩, 70), (⟨"LispMachineModel", "toldValue", "(I)I"⟩, 70), (⟨"LispMachineModel", "evaluated", "(IZ)I"⟩, 70), (⟨"LispMachineModel", "beginEval", "(IIIZ)V"⟩, 70), (⟨"LispMachineModel", "isConstant", "(I)Z"⟩, 70), (⟨"LispMachineModel", "valueOf", "(I)I"⟩, 70), (⟨"LispMachineModel", "takeValue", "(Z)V"⟩, 70), (⟨"LispMachineModel", "term", "(II)I"⟩, 70), (⟨"LispMachineModel", "goOn", "(Z)V"⟩, 70), (⟨"LispMachineModel", "basic", "(II)I"⟩, 70)]
theorem lw_r6 : ∀ q ∈ lw_privs_6, lw_okq q := List.forall_mem_cons.mpr ⟨lw_p80, List.forall_mem_cons.mpr ⟨lw_p81, List.forall_mem_cons.mpr ⟨lw_p82, List.forall_mem_cons.mpr ⟨lw_p83, List.forall_mem_cons.mpr ⟨lw_p84, List.forall_mem_cons.mpr ⟨lw_p85, List.forall_mem_cons.mpr ⟨lw_p86, List.forall_mem_cons.mpr ⟨lw_p87, List.forall_mem_cons.mpr ⟨lw_p88, List.forall_mem_cons.mpr ⟨lw_p89, List.forall_mem_cons.mpr ⟨lw_p90, List.forall_mem_cons.mpr ⟨lw_p91, List.forall_mem_cons.mpr ⟨lw_p92, List.forall_mem_cons.mpr ⟨lw_p93, List.forall_mem_cons.mpr ⟨lw_p94, List.forall_mem_cons.mpr ⟨lw_p95, fun _ h => absurd h List.not_mem_nil⟩⟩⟩⟩⟩⟩⟩⟩⟩⟩⟩⟩⟩⟩⟩⟩
theorem lw_p96 : lw_okq (⟨"LispMachineModel", "numberOf", "(I)J"⟩, 70) := ⟨⟨by decide +kernel, by decide +kernel⟩, List.mem_of_getElem? (i := 908) (by decide +kernel), List.mem_of_getElem? (i := 1372) (by decide +kernel), List.mem_of_getElem? (i := 1373) (by decide +kernel)⟩
theorem lw_p97 : lw_okq (⟨"LispMachineModel", "tellOut", "(I)V"⟩, 70) := ⟨⟨by decide +kernel, by decide +kernel⟩, List.mem_of_getElem? (i := 908) (by decide +kernel), List.mem_of_getElem? (i := 1376) (by decide +kernel), List.mem_of_getElem? (i := 1377) (by decide +kernel)⟩
theorem lw_p98 : lw_okq (⟨"LispMachineModel", "tellObject", "(I)V"⟩, 70) := ⟨⟨by decide +kernel, by decide +kernel⟩, List.mem_of_getElem? (i := 908) (by decide +kernel), List.mem_of_getElem? (i := 1380) (by decide +kernel), List.mem_of_getElem? (i := 1381) (by decide +kernel)⟩
theorem lw_p99 : lw_okq (⟨"LispMachineModel", "later", "(I)V"⟩, 70) := ⟨⟨by decide +kernel, by decide +kernel⟩, List.mem_of_getElem? (i := 908) (by decide +kernel), List.mem_of_getElem? (i := 1384) (by decide +kernel), List.mem_of_getElem? (i := 1385) (by decide +kernel)⟩
theorem lw_p100 : lw_okq (⟨"LispMachineModel", "isFull", "()Z"⟩, 70) := ⟨⟨by decide +kernel, by decide +kernel⟩, List.mem_of_getElem? (i := 908) (by decide +kernel), List.mem_of_getElem? (i := 1388) (by decide +kernel), List.mem_of_getElem? (i := 1389) (by decide +kernel)⟩
theorem lw_p101 : lw_okq (⟨"LispMachineModel", "tellAtom", "(I)V"⟩, 70) := ⟨⟨by decide +kernel, by decide +kernel⟩, List.mem_of_getElem? (i := 908) (by decide +kernel), List.mem_of_getElem? (i := 1392) (by decide +kernel), List.mem_of_getElem? (i := 1393) (by decide +kernel)⟩
theorem lw_p102 : lw_okq (⟨"LispMachineModel", "tellLetter", "(I)V"⟩, 70) := ⟨⟨by decide +kernel, by decide +kernel⟩, List.mem_of_getElem? (i := 908) (by decide +kernel), List.mem_of_getElem? (i := 1396) (by decide +kernel), List.mem_of_getElem? (i := 1397) (by decide +kernel)⟩
theorem lw_p103 : lw_okq (⟨"LispMachineModel", "with", "(I)I"⟩, 70) := ⟨⟨by decide +kernel, by decide +kernel⟩, List.mem_of_getElem? (i := 908) (by decide +kernel), List.mem_of_getElem? (i := 1400) (by decide +kernel), List.mem_of_getElem? (i := 1401) (by decide +kernel)⟩
theorem lw_p104 : lw_okq (⟨"LispMachineModel", "map", "(I)I"⟩, 70) := ⟨⟨by decide +kernel, by decide +kernel⟩, List.mem_of_getElem? (i := 908) (by decide +kernel), List.mem_of_getElem? (i := 1404) (by decide +kernel), List.mem_of_getElem? (i := 1405) (by decide +kernel)⟩
theorem lw_p105 : lw_okq (⟨"LispMachineModel", "isNewName", "(I)Z"⟩, 70) := ⟨⟨by decide +kernel, by decide +kernel⟩, List.mem_of_getElem? (i := 908) (by decide +kernel), List.mem_of_getElem? (i := 1408) (by decide +kernel), List.mem_of_getElem? (i := 1409) (by decide +kernel)⟩
theorem lw_p106 : lw_okq (⟨"LispMachineModel", "definition", "(I)I"⟩, 70) := ⟨⟨by decide +kernel, by decide +kernel⟩, List.mem_of_getElem? (i := 908) (by decide +kernel), List.mem_of_getElem? (i := 1415) (by decide +kernel), List.mem_of_getElem? (i := 1416) (by decide +kernel)⟩
theorem lw_p107 : lw_okq (⟨"LispMachineModel", "defun", "(IZ)I"⟩, 70) := ⟨⟨by decide +kernel, by decide +kernel⟩, List.mem_of_getElem? (i := 908) (by decide +kernel), List.mem_of_getElem? (i := 1419) (by decide +kernel), List.mem_of_getElem? (i := 1420) (by decide +kernel)⟩
theorem lw_p108 : lw_okq (⟨"LispMachineModel", "areVariables", "(II)Z"⟩, 70) := ⟨⟨by decide +kernel, by decide +kernel⟩, List.mem_of_getElem? (i := 908) (by decide +kernel), List.mem_of_getElem? (i := 1423) (by decide +kernel), List.mem_of_getElem? (i := 1424) (by decide +kernel)⟩
theorem lw_p109 : lw_okq (⟨"LispMachineModel", "undo", "(I)I"⟩, 70) := ⟨⟨by decide +kernel, by decide +kernel⟩, List.mem_of_getElem? (i := 908) (by decide +kernel), List.mem_of_getElem? (i := 1427) (by decide +kernel), List.mem_of_getElem? (i := 1428) (by decide +kernel)⟩
theorem lw_p110 : lw_okq (⟨"LispMachineModel", "hasCall", "(II)Z"⟩, 70) := ⟨⟨by decide +kernel, by decide +kernel⟩, List.mem_of_getElem? (i := 908) (by decide +kernel), List.mem_of_getElem? (i := 1431) (by decide +kernel), List.mem_of_getElem? (i := 1432) (by decide +kernel)⟩
theorem lw_p111 : lw_okq (⟨"LispMachineModel", "isCallOf", "(II)Z"⟩, 70) := ⟨⟨by decide +kernel, by decide +kernel⟩, List.mem_of_getElem? (i := 908) (by decide +kernel), List.mem_of_getElem? (i := 1435) (by decide +kernel), List.mem_of_getElem? (i := 1436) (by decide +kernel)⟩
def lw_privs_7 : List (MethodName × Nat) := [(⟨"LispMachineModel", "numberOf", "(I)J"⟩, 70), (⟨"LispMachineModel", "tellOut", "(I)V"⟩, 70), (⟨"LispMachineModel", "tellObject", "(I)V"⟩, 70), (⟨"LispMachineModel", "later", "(I)V"⟩, 70), (⟨"LispMachineModel", "isFull", "()Z"⟩, 70), (⟨"LispMachineModel", "tellAtom", "(I)V"⟩, 70), (⟨"LispMachineModel", "tellLetter", "(I)V"⟩, 70), (⟨"LispMachineModel", "with", "(I)I"⟩, 70), (⟨"LispMachineModel", "map", "(I)I"⟩, 70), (⟨"LispMachineModel", "isNewName", "(I)Z"⟩, 70), (⟨"LispMachineModel", "definition", "(I)I"⟩, 70), (⟨"LispMachineModel", "defun", "(IZ)I"⟩, 70), (⟨"LispMachineModel", "areVariables", "(II)Z"⟩, 70), (⟨"LispMachineModel", "undo", "(I)I"⟩, 70), (⟨"LispMachineModel", "hasCall", "(II)Z"⟩, 70), (⟨"LispMachineModel", "isCallOf", "(II)Z"⟩, 70)]
theorem lw_r7 : ∀ q ∈ lw_privs_7, lw_okq q := List.forall_mem_cons.mpr ⟨lw_p96, List.forall_mem_cons.mpr ⟨lw_p97, List.forall_mem_cons.mpr ⟨lw_p98, List.forall_mem_cons.mpr ⟨lw_p99, List.forall_mem_cons.mpr ⟨lw_p100, List.forall_mem_cons.mpr ⟨lw_p101, List.forall_mem_cons.mpr ⟨lw_p102, List.forall_mem_cons.mpr ⟨lw_p103, List.forall_mem_cons.mpr ⟨lw_p104, List.forall_mem_cons.mpr ⟨lw_p105, List.forall_mem_cons.mpr ⟨lw_p106, List.forall_mem_cons.mpr ⟨lw_p107, List.forall_mem_cons.mpr ⟨lw_p108, List.forall_mem_cons.mpr ⟨lw_p109, List.forall_mem_cons.mpr ⟨lw_p110, List.forall_mem_cons.mpr ⟨lw_p111, fun _ h => absurd h List.not_mem_nil⟩⟩⟩⟩⟩⟩⟩⟩⟩⟩⟩⟩⟩⟩⟩⟩
theorem lw_p112 : lw_okq (⟨"LispMachineModel", "show", "(I)I"⟩, 70) := ⟨⟨by decide +kernel, by decide +kernel⟩, List.mem_of_getElem? (i := 908) (by decide +kernel), List.mem_of_getElem? (i := 1439) (by decide +kernel), List.mem_of_getElem? (i := 1440) (by decide +kernel)⟩
theorem lw_p113 : lw_okq (⟨"LispMachineModel", "list4", "(IIII)I"⟩, 70) := ⟨⟨by decide +kernel, by decide +kernel⟩, List.mem_of_getElem? (i := 908) (by decide +kernel), List.mem_of_getElem? (i := 1443) (by decide +kernel), List.mem_of_getElem? (i := 1444) (by decide +kernel)⟩
theorem lw_p114 : lw_okq (⟨"LispMachineModel", "list3", "(III)I"⟩, 70) := ⟨⟨by decide +kernel, by decide +kernel⟩, List.mem_of_getElem? (i := 908) (by decide +kernel), List.mem_of_getElem? (i := 1447) (by decide +kernel), List.mem_of_getElem? (i := 1448) (by decide +kernel)⟩
theorem lw_p115 : lw_okq (⟨"LispMachineModel", "forget", "(I)V"⟩, 70) := ⟨⟨by decide +kernel, by decide +kernel⟩, List.mem_of_getElem? (i := 908) (by decide +kernel), List.mem_of_getElem? (i := 1451) (by decide +kernel), List.mem_of_getElem? (i := 1452) (by decide +kernel)⟩
theorem lw_p116 : lw_okq (⟨"LispMachineModel", "slotOf", "(I)I"⟩, 70) := ⟨⟨by decide +kernel, by decide +kernel⟩, List.mem_of_getElem? (i := 908) (by decide +kernel), List.mem_of_getElem? (i := 1455) (by decide +kernel), List.mem_of_getElem? (i := 1456) (by decide +kernel)⟩
def lw_privs_8 : List (MethodName × Nat) := [(⟨"LispMachineModel", "show", "(I)I"⟩, 70), (⟨"LispMachineModel", "list4", "(IIII)I"⟩, 70), (⟨"LispMachineModel", "list3", "(III)I"⟩, 70), (⟨"LispMachineModel", "forget", "(I)V"⟩, 70), (⟨"LispMachineModel", "slotOf", "(I)I"⟩, 70)]
theorem lw_r8 : ∀ q ∈ lw_privs_8, lw_okq q := List.forall_mem_cons.mpr ⟨lw_p112, List.forall_mem_cons.mpr ⟨lw_p113, List.forall_mem_cons.mpr ⟨lw_p114, List.forall_mem_cons.mpr ⟨lw_p115, List.forall_mem_cons.mpr ⟨lw_p116, fun _ h => absurd h List.not_mem_nil⟩⟩⟩⟩⟩
def lw_privs : List (MethodName × Nat) := lw_privs_1 ++ (lw_privs_2 ++ (lw_privs_3 ++ (lw_privs_4 ++ (lw_privs_5 ++ (lw_privs_6 ++ (lw_privs_7 ++ (lw_privs_8)))))))
def lw_tbl : List Cond := k2_sels lw_privs ++ tables_1
theorem lw_privs_ok : ∀ q ∈ lw_privs, lw_okq q := by
  show ∀ q ∈ lw_privs_1 ++ (lw_privs_2 ++ (lw_privs_3 ++ (lw_privs_4 ++ (lw_privs_5 ++ (lw_privs_6 ++ (lw_privs_7 ++ (lw_privs_8))))))), lw_okq q
  exact List.forall_mem_append.mpr ⟨lw_r1, List.forall_mem_append.mpr ⟨lw_r2, List.forall_mem_append.mpr ⟨lw_r3, List.forall_mem_append.mpr ⟨lw_r4, List.forall_mem_append.mpr ⟨lw_r5, List.forall_mem_append.mpr ⟨lw_r6, List.forall_mem_append.mpr ⟨lw_r7, lw_r8⟩⟩⟩⟩⟩⟩⟩
end
section
def RX0 : String := "LispMachine$Call"
def TX0 : u_T := fun k => match k with
  | 0 => ("LispMachine$Call", "values", "[I", true)
  | 1 => ("LispMachine$Call", "valueCount", "I", false)
  | 2 => ("LispMachine$Call", "name", "I", false)
  | 3 => ("LispMachine$Call", "definition", "LLispMachine$Definition;", false)
  | 4 => ("LispMachine$Call", "termsLeft", "I", false)
  | 5 => ("LispMachine$Call", "scope", "LLispMachine$Call;", false)
  | _ => ("LispMachine$Call", "entered", "Z", false)
def tyX0 : Nat → FieldType := fun k => match k with
  | 0 => .array .int
  | 1 => .int
  | 2 => .int
  | 3 => .object "LispMachine$Definition"
  | 4 => .int
  | 5 => .object "LispMachine$Call"
  | _ => .boolean
abbrev wsX00 : List Cond := u_ws RX0 TX0 7
theorem nmX0 : ∀ a, a < 7 → ∀ b, b < 7 → a ≠ b → (TX0 a).2.1 ≠ (TX0 b).2.1 := by decide +kernel
theorem tyX0_ok : ∀ k, k < 7 → parseFieldDescriptor (TX0 k).2.2.1 = some (tyX0 k) := by decide +kernel
abbrev cX0_init : ByteArray := prog_2_method_1_code
def yX0_init : MethodName := ⟨RX0, "<init>", "()V"⟩
abbrev cX0_start : ByteArray := prog_2_method_2_code
def yX0_start : MethodName := ⟨RX0, "start", "(ILLispMachine$Definition;ILLispMachine$Call;)V"⟩
abbrev cX0_add : ByteArray := prog_2_method_3_code
def yX0_add : MethodName := ⟨RX0, "add", "(I)V"⟩
def RX1 : String := "LispMachine$Commands"
def TX1 : u_T := fun k => match k with
  | 0 => ("LispMachine$Commands", "store", "LLispMachine$Store;", true)
  | 1 => ("LispMachine$Commands", "functions", "LLispMachine$Functions;", true)
  | 2 => ("LispMachine$Commands", "evaluator", "LLispMachine$Evaluator;", true)
  | 3 => ("LispMachine$Commands", "terms", "LLispMachine$Terms;", true)
  | 4 => ("LispMachine$Commands", "result", "I", false)
  | _ => ("LispMachine$Commands", "kept", "I", false)
def tyX1 : Nat → FieldType := fun k => match k with
  | 0 => .object "LispMachine$Store"
  | 1 => .object "LispMachine$Functions"
  | 2 => .object "LispMachine$Evaluator"
  | 3 => .object "LispMachine$Terms"
  | 4 => .int
  | _ => .int
abbrev wsX10 : List Cond := u_ws RX1 TX1 6
theorem nmX1 : ∀ a, a < 6 → ∀ b, b < 6 → a ≠ b → (TX1 a).2.1 ≠ (TX1 b).2.1 := by decide +kernel
theorem tyX1_ok : ∀ k, k < 6 → parseFieldDescriptor (TX1 k).2.2.1 = some (tyX1 k) := by decide +kernel
abbrev cX1_init : ByteArray := prog_3_method_1_code
def yX1_init : MethodName := ⟨RX1, "<init>", "(LLispMachine$Store;LLispMachine$Functions;LLispMachine$Evaluator;)V"⟩
abbrev cX1_roomFor : ByteArray := prog_3_method_2_code
def yX1_roomFor : MethodName := ⟨RX1, "roomFor", "(I)I"⟩
abbrev cX1_perform : ByteArray := prog_3_method_3_code
def yX1_perform : MethodName := ⟨RX1, "perform", "(I)I"⟩
abbrev cX1_evaluate : ByteArray := prog_3_method_4_code
def yX1_evaluate : MethodName := ⟨RX1, "evaluate", "(III)I"⟩
abbrev cX1_boundVariables : ByteArray := prog_3_method_5_code
def yX1_boundVariables : MethodName := ⟨RX1, "boundVariables", "(I)I"⟩
abbrev cX1_map : ByteArray := prog_3_method_6_code
def yX1_map : MethodName := ⟨RX1, "map", "(II)I"⟩
abbrev cX1_reversed : ByteArray := prog_3_method_7_code
def yX1_reversed : MethodName := ⟨RX1, "reversed", "(II)I"⟩
abbrev cX1_define : ByteArray := prog_3_method_8_code
def yX1_define : MethodName := ⟨RX1, "define", "(III)I"⟩
abbrev cX1_defineAnew : ByteArray := prog_3_method_9_code
def yX1_defineAnew : MethodName := ⟨RX1, "defineAnew", "(III)I"⟩
abbrev cX1_isDefinition : ByteArray := prog_3_method_10_code
def yX1_isDefinition : MethodName := ⟨RX1, "isDefinition", "(III)Z"⟩
abbrev cX1_undo : ByteArray := prog_3_method_11_code
def yX1_undo : MethodName := ⟨RX1, "undo", "()I"⟩
abbrev cX1_show : ByteArray := prog_3_method_12_code
def yX1_show : MethodName := ⟨RX1, "show", "(I)I"⟩
abbrev cX1_isFunctionName : ByteArray := prog_3_method_13_code
def yX1_isFunctionName : MethodName := ⟨RX1, "isFunctionName", "(I)Z"⟩
abbrev cX1_areParameters : ByteArray := prog_3_method_14_code
def yX1_areParameters : MethodName := ⟨RX1, "areParameters", "(I)Z"⟩
def RX2 : String := "LispMachine$Definition"
def TX2 : u_T := fun k => match k with
  | 0 => ("LispMachine$Definition", "name", "I", true)
  | 1 => ("LispMachine$Definition", "takes", "I", true)
  | 2 => ("LispMachine$Definition", "parameters", "I", false)
  | _ => ("LispMachine$Definition", "body", "I", false)
def tyX2 : Nat → FieldType := fun k => match k with
  | 0 => .int
  | 1 => .int
  | 2 => .int
  | _ => .int
abbrev wsX20 : List Cond := u_ws RX2 TX2 4
theorem nmX2 : ∀ a, a < 4 → ∀ b, b < 4 → a ≠ b → (TX2 a).2.1 ≠ (TX2 b).2.1 := by decide +kernel
theorem tyX2_ok : ∀ k, k < 4 → parseFieldDescriptor (TX2 k).2.2.1 = some (tyX2 k) := by decide +kernel
abbrev cX2_init : ByteArray := prog_4_method_1_code
def yX2_init : MethodName := ⟨RX2, "<init>", "(IIII)V"⟩
def RX3 : String := "LispMachine$Evaluator"
def TX3 : u_T := fun k => match k with
  | 0 => ("LispMachine$Evaluator", "store", "LLispMachine$Store;", true)
  | 1 => ("LispMachine$Evaluator", "functions", "LLispMachine$Functions;", true)
  | 2 => ("LispMachine$Evaluator", "calls", "[LLispMachine$Call;", true)
  | 3 => ("LispMachine$Evaluator", "open", "I", false)
  | 4 => ("LispMachine$Evaluator", "fuel", "I", false)
  | 5 => ("LispMachine$Evaluator", "steps", "I", false)
  | 6 => ("LispMachine$Evaluator", "fault", "I", false)
  | 7 => ("LispMachine$Evaluator", "bindings", "I", false)
  | 8 => ("LispMachine$Evaluator", "move", "I", false)
  | 9 => ("LispMachine$Evaluator", "term", "I", false)
  | 10 => ("LispMachine$Evaluator", "scope", "LLispMachine$Call;", false)
  | _ => ("LispMachine$Evaluator", "value", "I", false)
def tyX3 : Nat → FieldType := fun k => match k with
  | 0 => .object "LispMachine$Store"
  | 1 => .object "LispMachine$Functions"
  | 2 => .array (.object "LispMachine$Call")
  | 3 => .int
  | 4 => .int
  | 5 => .int
  | 6 => .int
  | 7 => .int
  | 8 => .int
  | 9 => .int
  | 10 => .object "LispMachine$Call"
  | _ => .int
abbrev wsX30 : List Cond := u_ws RX3 TX3 12
theorem nmX3 : ∀ a, a < 12 → ∀ b, b < 12 → a ≠ b → (TX3 a).2.1 ≠ (TX3 b).2.1 := by decide +kernel
theorem tyX3_ok : ∀ k, k < 12 → parseFieldDescriptor (TX3 k).2.2.1 = some (tyX3 k) := by decide +kernel
abbrev cX3_init : ByteArray := prog_5_method_1_code
def yX3_init : MethodName := ⟨RX3, "<init>", "(LLispMachine$Store;LLispMachine$Functions;)V"⟩
abbrev cX3_clear : ByteArray := prog_5_method_2_code
def yX3_clear : MethodName := ⟨RX3, "clear", "()V"⟩
abbrev cX3_beginWith : ByteArray := prog_5_method_3_code
def yX3_beginWith : MethodName := ⟨RX3, "beginWith", "(II)V"⟩
abbrev cX3_beginCall : ByteArray := prog_5_method_4_code
def yX3_beginCall : MethodName := ⟨RX3, "beginCall", "(LLispMachine$Definition;I)V"⟩
abbrev cX3_finish : ByteArray := prog_5_method_5_code
def yX3_finish : MethodName := ⟨RX3, "finish", "()I"⟩
abbrev cX3_evaluateNext : ByteArray := prog_5_method_6_code
def yX3_evaluateNext : MethodName := ⟨RX3, "evaluateNext", "(ILLispMachine$Call;)V"⟩
abbrev cX3_beginTerm : ByteArray := prog_5_method_7_code
def yX3_beginTerm : MethodName := ⟨RX3, "beginTerm", "()V"⟩
abbrev cX3_answer : ByteArray := prog_5_method_8_code
def yX3_answer : MethodName := ⟨RX3, "answer", "(I)V"⟩
abbrev cX3_argumentOf : ByteArray := prog_5_method_9_code
def yX3_argumentOf : MethodName := ⟨RX3, "argumentOf", "(LLispMachine$Call;I)I"⟩
abbrev cX3_boundValueOf : ByteArray := prog_5_method_10_code
def yX3_boundValueOf : MethodName := ⟨RX3, "boundValueOf", "(I)I"⟩
abbrev cX3_openCall : ByteArray := prog_5_method_11_code
def yX3_openCall : MethodName := ⟨RX3, "openCall", "(II)V"⟩
abbrev cX3_handOverValue : ByteArray := prog_5_method_12_code
def yX3_handOverValue : MethodName := ⟨RX3, "handOverValue", "(LLispMachine$Call;)V"⟩
abbrev cX3_applyBase : ByteArray := prog_5_method_13_code
def yX3_applyBase : MethodName := ⟨RX3, "applyBase", "(LLispMachine$Call;)V"⟩
abbrev cX3_truth : ByteArray := prog_5_method_14_code
def yX3_truth : MethodName := ⟨RX3, "truth", "(Z)I"⟩
def RX4 : String := "LispMachine$Functions"
def TX4 : u_T := fun k => match k with
  | 0 => ("LispMachine$Functions", "table", "[LLispMachine$Definition;", true)
  | _ => ("LispMachine$Functions", "count", "I", false)
def tyX4 : Nat → FieldType := fun k => match k with
  | 0 => .array (.object "LispMachine$Definition")
  | _ => .int
abbrev wsX40 : List Cond := u_ws RX4 TX4 2
theorem nmX4 : ∀ a, a < 2 → ∀ b, b < 2 → a ≠ b → (TX4 a).2.1 ≠ (TX4 b).2.1 := by decide +kernel
theorem tyX4_ok : ∀ k, k < 2 → parseFieldDescriptor (TX4 k).2.2.1 = some (tyX4 k) := by decide +kernel
abbrev cX4_init : ByteArray := prog_6_method_1_code
def yX4_init : MethodName := ⟨RX4, "<init>", "()V"⟩
abbrev cX4_find : ByteArray := prog_6_method_2_code
def yX4_find : MethodName := ⟨RX4, "find", "(I)LLispMachine$Definition;"⟩
abbrev cX4_at : ByteArray := prog_6_method_3_code
def yX4_at : MethodName := ⟨RX4, "at", "(I)LLispMachine$Definition;"⟩
abbrev cX4_isFull : ByteArray := prog_6_method_4_code
def yX4_isFull : MethodName := ⟨RX4, "isFull", "()Z"⟩
abbrev cX4_add : ByteArray := prog_6_method_5_code
def yX4_add : MethodName := ⟨RX4, "add", "(LLispMachine$Definition;)V"⟩
abbrev cX4_removeLast : ByteArray := prog_6_method_6_code
def yX4_removeLast : MethodName := ⟨RX4, "removeLast", "()V"⟩
def RX5 : String := "LispMachine$Reader"
def TX5 : u_T := fun k => match k with
  | 0 => ("LispMachine$Reader", "store", "LLispMachine$Store;", true)
  | 1 => ("LispMachine$Reader", "text", "[C", true)
  | 2 => ("LispMachine$Reader", "length", "I", false)
  | 3 => ("LispMachine$Reader", "fault", "I", false)
  | 4 => ("LispMachine$Reader", "place", "I", false)
  | 5 => ("LispMachine$Reader", "items", "[I", true)
  | 6 => ("LispMachine$Reader", "itemCount", "I", false)
  | 7 => ("LispMachine$Reader", "firstItem", "[I", true)
  | 8 => ("LispMachine$Reader", "awaited", "[I", true)
  | 9 => ("LispMachine$Reader", "open", "I", false)
  | 10 => ("LispMachine$Reader", "words", "I", false)
  | 11 => ("LispMachine$Reader", "digitsAlone", "Z", false)
  | 12 => ("LispMachine$Reader", "amount", "J", false)
  | _ => ("LispMachine$Reader", "spelling", "J", false)
def tyX5 : Nat → FieldType := fun k => match k with
  | 0 => .object "LispMachine$Store"
  | 1 => .array .char
  | 2 => .int
  | 3 => .int
  | 4 => .int
  | 5 => .array .int
  | 6 => .int
  | 7 => .array .int
  | 8 => .array .int
  | 9 => .int
  | 10 => .int
  | 11 => .boolean
  | 12 => .long
  | _ => .long
abbrev wsX50 : List Cond := u_ws RX5 TX5 14
theorem nmX5 : ∀ a, a < 14 → ∀ b, b < 14 → a ≠ b → (TX5 a).2.1 ≠ (TX5 b).2.1 := by decide +kernel
theorem tyX5_ok : ∀ k, k < 14 → parseFieldDescriptor (TX5 k).2.2.1 = some (tyX5 k) := by decide +kernel
abbrev cX5_init : ByteArray := prog_7_method_1_code
def yX5_init : MethodName := ⟨RX5, "<init>", "(LLispMachine$Store;)V"⟩
abbrev cX5_append : ByteArray := prog_7_method_2_code
def yX5_append : MethodName := ⟨RX5, "append", "(C)V"⟩
abbrev cX5_clear : ByteArray := prog_7_method_3_code
def yX5_clear : MethodName := ⟨RX5, "clear", "()V"⟩
abbrev cX5_read : ByteArray := prog_7_method_4_code
def yX5_read : MethodName := ⟨RX5, "read", "()I"⟩
abbrev cX5_behindBlanks : ByteArray := prog_7_method_5_code
def yX5_behindBlanks : MethodName := ⟨RX5, "behindBlanks", "(II)I"⟩
abbrev cX5_behindWord : ByteArray := prog_7_method_6_code
def yX5_behindWord : MethodName := ⟨RX5, "behindWord", "(II)I"⟩
abbrev cX5_faultOfWord : ByteArray := prog_7_method_7_code
def yX5_faultOfWord : MethodName := ⟨RX5, "faultOfWord", "(II)I"⟩
abbrev cX5_isAtomLetter : ByteArray := prog_7_method_8_code
def yX5_isAtomLetter : MethodName := ⟨RX5, "isAtomLetter", "(C)Z"⟩
abbrev cX5_scanAtom : ByteArray := prog_7_method_9_code
def yX5_scanAtom : MethodName := ⟨RX5, "scanAtom", "(II)Z"⟩
abbrev cX5_mayStand : ByteArray := prog_7_method_10_code
def yX5_mayStand : MethodName := ⟨RX5, "mayStand", "(C)Z"⟩
abbrev cX5_take : ByteArray := prog_7_method_11_code
def yX5_take : MethodName := ⟨RX5, "take", "(C)V"⟩
abbrev cX5_openAt : ByteArray := prog_7_method_12_code
def yX5_openAt : MethodName := ⟨RX5, "openAt", "(I)V"⟩
abbrev cX5_closeList : ByteArray := prog_7_method_13_code
def yX5_closeList : MethodName := ⟨RX5, "closeList", "()V"⟩
abbrev cX5_finish : ByteArray := prog_7_method_14_code
def yX5_finish : MethodName := ⟨RX5, "finish", "(I)V"⟩
def RX6 : String := "LispMachine$Store"
def TX6 : u_T := fun k => match k with
  | 0 => ("LispMachine$Store", "left", "[J", false)
  | 1 => ("LispMachine$Store", "right", "[I", false)
  | 2 => ("LispMachine$Store", "height", "[I", false)
  | 3 => ("LispMachine$Store", "next", "[I", false)
  | 4 => ("LispMachine$Store", "buckets", "[I", true)
  | _ => ("LispMachine$Store", "count", "I", false)
def tyX6 : Nat → FieldType := fun k => match k with
  | 0 => .array .long
  | 1 => .array .int
  | 2 => .array .int
  | 3 => .array .int
  | 4 => .array .int
  | _ => .int
abbrev wsX60 : List Cond := u_ws RX6 TX6 6
theorem nmX6 : ∀ a, a < 6 → ∀ b, b < 6 → a ≠ b → (TX6 a).2.1 ≠ (TX6 b).2.1 := by decide +kernel
theorem tyX6_ok : ∀ k, k < 6 → parseFieldDescriptor (TX6 k).2.2.1 = some (tyX6 k) := by decide +kernel
abbrev cX6_init : ByteArray := prog_8_method_1_code
def yX6_init : MethodName := ⟨RX6, "<init>", "()V"⟩
abbrev cX6_natural : ByteArray := prog_8_method_2_code
def yX6_natural : MethodName := ⟨RX6, "natural", "(J)I"⟩
abbrev cX6_symbol : ByteArray := prog_8_method_3_code
def yX6_symbol : MethodName := ⟨RX6, "symbol", "(J)I"⟩
abbrev cX6_pair : ByteArray := prog_8_method_4_code
def yX6_pair : MethodName := ⟨RX6, "pair", "(II)I"⟩
abbrev cX6_isPair : ByteArray := prog_8_method_5_code
def yX6_isPair : MethodName := ⟨RX6, "isPair", "(I)Z"⟩
abbrev cX6_isNatural : ByteArray := prog_8_method_6_code
def yX6_isNatural : MethodName := ⟨RX6, "isNatural", "(I)Z"⟩
abbrev cX6_isSymbol : ByteArray := prog_8_method_7_code
def yX6_isSymbol : MethodName := ⟨RX6, "isSymbol", "(I)Z"⟩
abbrev cX6_isVariable : ByteArray := prog_8_method_8_code
def yX6_isVariable : MethodName := ⟨RX6, "isVariable", "(I)Z"⟩
abbrev cX6_isQuoted : ByteArray := prog_8_method_9_code
def yX6_isQuoted : MethodName := ⟨RX6, "isQuoted", "(I)Z"⟩
abbrev cX6_head : ByteArray := prog_8_method_10_code
def yX6_head : MethodName := ⟨RX6, "head", "(I)I"⟩
abbrev cX6_tail : ByteArray := prog_8_method_11_code
def yX6_tail : MethodName := ⟨RX6, "tail", "(I)I"⟩
abbrev cX6_second : ByteArray := prog_8_method_12_code
def yX6_second : MethodName := ⟨RX6, "second", "(I)I"⟩
abbrev cX6_third : ByteArray := prog_8_method_13_code
def yX6_third : MethodName := ⟨RX6, "third", "(I)I"⟩
abbrev cX6_fourth : ByteArray := prog_8_method_14_code
def yX6_fourth : MethodName := ⟨RX6, "fourth", "(I)I"⟩
abbrev cX6_heightOf : ByteArray := prog_8_method_15_code
def yX6_heightOf : MethodName := ⟨RX6, "heightOf", "(I)I"⟩
abbrev cX6_amount : ByteArray := prog_8_method_16_code
def yX6_amount : MethodName := ⟨RX6, "amount", "(I)J"⟩
abbrev cX6_spelling : ByteArray := prog_8_method_17_code
def yX6_spelling : MethodName := ⟨RX6, "spelling", "(I)J"⟩
abbrev cX6_lengthOf : ByteArray := prog_8_method_18_code
def yX6_lengthOf : MethodName := ⟨RX6, "lengthOf", "(I)I"⟩
abbrev cX6_isElement : ByteArray := prog_8_method_19_code
def yX6_isElement : MethodName := ⟨RX6, "isElement", "(II)Z"⟩
abbrev cX6_makeRoom : ByteArray := prog_8_method_20_code
def yX6_makeRoom : MethodName := ⟨RX6, "makeRoom", "(I)Z"⟩
abbrev cX6_forgetFrom : ByteArray := prog_8_method_21_code
def yX6_forgetFrom : MethodName := ⟨RX6, "forgetFrom", "(I)V"⟩
abbrev cX6_hold : ByteArray := prog_8_method_22_code
def yX6_hold : MethodName := ⟨RX6, "hold", "(JII)I"⟩
abbrev cX6_bucketOf : ByteArray := prog_8_method_23_code
def yX6_bucketOf : MethodName := ⟨RX6, "bucketOf", "(JI)I"⟩
def RX7 : String := "LispMachine$Teller"
def TX7 : u_T := fun k => match k with
  | 0 => ("LispMachine$Teller", "store", "LLispMachine$Store;", true)
  | 1 => ("LispMachine$Teller", "out", "[C", true)
  | 2 => ("LispMachine$Teller", "length", "I", false)
  | 3 => ("LispMachine$Teller", "rests", "[I", true)
  | _ => ("LispMachine$Teller", "open", "I", false)
def tyX7 : Nat → FieldType := fun k => match k with
  | 0 => .object "LispMachine$Store"
  | 1 => .array .char
  | 2 => .int
  | 3 => .array .int
  | _ => .int
abbrev wsX70 : List Cond := u_ws RX7 TX7 5
theorem nmX7 : ∀ a, a < 5 → ∀ b, b < 5 → a ≠ b → (TX7 a).2.1 ≠ (TX7 b).2.1 := by decide +kernel
theorem tyX7_ok : ∀ k, k < 5 → parseFieldDescriptor (TX7 k).2.2.1 = some (tyX7 k) := by decide +kernel
abbrev cX7_init : ByteArray := prog_9_method_1_code
def yX7_init : MethodName := ⟨RX7, "<init>", "(LLispMachine$Store;)V"⟩
abbrev cX7_clear : ByteArray := prog_9_method_2_code
def yX7_clear : MethodName := ⟨RX7, "clear", "()V"⟩
abbrev cX7_characterAt : ByteArray := prog_9_method_3_code
def yX7_characterAt : MethodName := ⟨RX7, "characterAt", "(I)I"⟩
abbrev cX7_tell : ByteArray := prog_9_method_4_code
def yX7_tell : MethodName := ⟨RX7, "tell", "(I)V"⟩
abbrev cX7_beginObject : ByteArray := prog_9_method_5_code
def yX7_beginObject : MethodName := ⟨RX7, "beginObject", "(I)I"⟩
abbrev cX7_beginRest : ByteArray := prog_9_method_6_code
def yX7_beginRest : MethodName := ⟨RX7, "beginRest", "(I)I"⟩
abbrev cX7_goOn : ByteArray := prog_9_method_7_code
def yX7_goOn : MethodName := ⟨RX7, "goOn", "()I"⟩
abbrev cX7_putAtom : ByteArray := prog_9_method_8_code
def yX7_putAtom : MethodName := ⟨RX7, "putAtom", "(I)V"⟩
abbrev cX7_putNatural : ByteArray := prog_9_method_9_code
def yX7_putNatural : MethodName := ⟨RX7, "putNatural", "(J)V"⟩
abbrev cX7_putSymbol : ByteArray := prog_9_method_10_code
def yX7_putSymbol : MethodName := ⟨RX7, "putSymbol", "(J)V"⟩
abbrev cX7_put : ByteArray := prog_9_method_11_code
def yX7_put : MethodName := ⟨RX7, "put", "(C)V"⟩
def RX8 : String := "LispMachine$Terms"
def TX8 : u_T := fun k => match k with
  | 0 => ("LispMachine$Terms", "store", "LLispMachine$Store;", true)
  | 1 => ("LispMachine$Terms", "functions", "LLispMachine$Functions;", true)
  | 2 => ("LispMachine$Terms", "parts", "[I", true)
  | _ => ("LispMachine$Terms", "count", "I", false)
def tyX8 : Nat → FieldType := fun k => match k with
  | 0 => .object "LispMachine$Store"
  | 1 => .object "LispMachine$Functions"
  | 2 => .array .int
  | _ => .int
abbrev wsX80 : List Cond := u_ws RX8 TX8 4
theorem nmX8 : ∀ a, a < 4 → ∀ b, b < 4 → a ≠ b → (TX8 a).2.1 ≠ (TX8 b).2.1 := by decide +kernel
theorem tyX8_ok : ∀ k, k < 4 → parseFieldDescriptor (TX8 k).2.2.1 = some (tyX8 k) := by decide +kernel
abbrev cX8_init : ByteArray := prog_10_method_1_code
def yX8_init : MethodName := ⟨RX8, "<init>", "(LLispMachine$Store;LLispMachine$Functions;)V"⟩
abbrev cX8_isTerm : ByteArray := prog_10_method_2_code
def yX8_isTerm : MethodName := ⟨RX8, "isTerm", "(IIII)Z"⟩
abbrev cX8_isCalled : ByteArray := prog_10_method_3_code
def yX8_isCalled : MethodName := ⟨RX8, "isCalled", "(II)Z"⟩
abbrev cX8_plain : ByteArray := prog_10_method_4_code
def yX8_plain : MethodName := ⟨RX8, "plain", "(I)I"⟩
abbrev cX8_startWith : ByteArray := prog_10_method_5_code
def yX8_startWith : MethodName := ⟨RX8, "startWith", "(I)V"⟩
abbrev cX8_gather : ByteArray := prog_10_method_6_code
def yX8_gather : MethodName := ⟨RX8, "gather", "(I)V"⟩
abbrev cX8_addTermsOf : ByteArray := prog_10_method_7_code
def yX8_addTermsOf : MethodName := ⟨RX8, "addTermsOf", "(I)Z"⟩
abbrev cX8_listOfParts : ByteArray := prog_10_method_8_code
def yX8_listOfParts : MethodName := ⟨RX8, "listOfParts", "(II)I"⟩
abbrev cX8_takesOf : ByteArray := prog_10_method_9_code
def yX8_takesOf : MethodName := ⟨RX8, "takesOf", "(I)I"⟩
abbrev cX8_isCall : ByteArray := prog_10_method_10_code
def yX8_isCall : MethodName := ⟨RX8, "isCall", "(I)Z"⟩
abbrev cX8_isPlainConstant : ByteArray := prog_10_method_11_code
def yX8_isPlainConstant : MethodName := ⟨RX8, "isPlainConstant", "(I)Z"⟩
def RX9 : String := "LispMachine"
def TX9 : u_T := fun k => match k with
  | 0 => ("LispMachine", "waiting", "[I", true)
  | 1 => ("LispMachine", "store", "LLispMachine$Store;", true)
  | 2 => ("LispMachine", "reader", "LLispMachine$Reader;", true)
  | 3 => ("LispMachine", "teller", "LLispMachine$Teller;", true)
  | 4 => ("LispMachine", "functions", "LLispMachine$Functions;", true)
  | 5 => ("LispMachine", "evaluator", "LLispMachine$Evaluator;", true)
  | _ => ("LispMachine", "commands", "LLispMachine$Commands;", true)
def tyX9 : Nat → FieldType := fun k => match k with
  | 0 => .array .int
  | 1 => .object "LispMachine$Store"
  | 2 => .object "LispMachine$Reader"
  | 3 => .object "LispMachine$Teller"
  | 4 => .object "LispMachine$Functions"
  | 5 => .object "LispMachine$Evaluator"
  | _ => .object "LispMachine$Commands"
abbrev wsX90 : List Cond := u_ws RX9 TX9 7
theorem nmX9 : ∀ a, a < 7 → ∀ b, b < 7 → a ≠ b → (TX9 a).2.1 ≠ (TX9 b).2.1 := by decide +kernel
theorem tyX9_ok : ∀ k, k < 7 → parseFieldDescriptor (TX9 k).2.2.1 = some (tyX9 k) := by decide +kernel
abbrev cX9_init : ByteArray := prog_1_method_1_code
def yX9_init : MethodName := ⟨RX9, "<init>", "()V"⟩
abbrev cX9_feed : ByteArray := prog_1_method_2_code
def yX9_feed : MethodName := ⟨RX9, "feed", "(IIIII)V"⟩
abbrev cX9_end : ByteArray := prog_1_method_3_code
def yX9_end : MethodName := ⟨RX9, "end", "(I)I"⟩
abbrev cX9_fuel : ByteArray := prog_1_method_4_code
def yX9_fuel : MethodName := ⟨RX9, "fuel", "(I)I"⟩
abbrev cX9_run : ByteArray := prog_1_method_5_code
def yX9_run : MethodName := ⟨RX9, "run", "()I"⟩
abbrev cX9_fault : ByteArray := prog_1_method_6_code
def yX9_fault : MethodName := ⟨RX9, "fault", "(I)I"⟩
abbrev cX9_steps : ByteArray := prog_1_method_7_code
def yX9_steps : MethodName := ⟨RX9, "steps", "()I"⟩
abbrev cX9_functions : ByteArray := prog_1_method_8_code
def yX9_functions : MethodName := ⟨RX9, "functions", "()I"⟩
abbrev cX9_size : ByteArray := prog_1_method_9_code
def yX9_size : MethodName := ⟨RX9, "size", "()I"⟩
abbrev cX9_letter : ByteArray := prog_1_method_10_code
def yX9_letter : MethodName := ⟨RX9, "letter", "(I)I"⟩
def RX10 : String := "LispMachineModel"
def TX10 : u_T := fun k => match k with
  | 0 => ("LispMachineModel", "left", "[I", true)
  | 1 => ("LispMachineModel", "right", "[I", true)
  | 2 => ("LispMachineModel", "next", "[I", true)
  | 3 => ("LispMachineModel", "sizes", "[I", true)
  | 4 => ("LispMachineModel", "heights", "[I", true)
  | 5 => ("LispMachineModel", "number", "[J", true)
  | 6 => ("LispMachineModel", "heads", "[I", true)
  | 7 => ("LispMachineModel", "objects", "I", false)
  | 8 => ("LispMachineModel", "names", "[I", true)
  | 9 => ("LispMachineModel", "lengths", "[I", true)
  | 10 => ("LispMachineModel", "symbols", "I", false)
  | 11 => ("LispMachineModel", "waiting", "[I", true)
  | 12 => ("LispMachineModel", "text", "[I", true)
  | 13 => ("LispMachineModel", "textSize", "I", false)
  | 14 => ("LispMachineModel", "out", "[I", true)
  | 15 => ("LispMachineModel", "outSize", "I", false)
  | 16 => ("LispMachineModel", "word", "[I", true)
  | 17 => ("LispMachineModel", "wordSize", "I", false)
  | 18 => ("LispMachineModel", "tellWhat", "[I", true)
  | 19 => ("LispMachineModel", "telling", "I", false)
  | 20 => ("LispMachineModel", "at", "I", false)
  | 21 => ("LispMachineModel", "readFault", "I", false)
  | 22 => ("LispMachineModel", "readPlace", "I", false)
  | 23 => ("LispMachineModel", "openSort", "[I", true)
  | 24 => ("LispMachineModel", "openFrom", "[I", true)
  | 25 => ("LispMachineModel", "openState", "[I", true)
  | 26 => ("LispMachineModel", "openLast", "[I", true)
  | 27 => ("LispMachineModel", "open", "I", false)
  | 28 => ("LispMachineModel", "items", "[I", true)
  | 29 => ("LispMachineModel", "itemSize", "I", false)
  | 30 => ("LispMachineModel", "whole", "I", false)
  | 31 => ("LispMachineModel", "done", "Z", false)
  | 32 => ("LispMachineModel", "defs", "I", false)
  | 33 => ("LispMachineModel", "defName", "[I", true)
  | 34 => ("LispMachineModel", "defMany", "[I", true)
  | 35 => ("LispMachineModel", "defVariable", "[I", true)
  | 36 => ("LispMachineModel", "defBody", "[I", true)
  | 37 => ("LispMachineModel", "comingName", "I", false)
  | 38 => ("LispMachineModel", "comingMany", "I", false)
  | 39 => ("LispMachineModel", "fuel", "I", false)
  | 40 => ("LispMachineModel", "steps", "I", false)
  | 41 => ("LispMachineModel", "work", "I", false)
  | 42 => ("LispMachineModel", "callOf", "[I", true)
  | 43 => ("LispMachineModel", "restOf", "[I", true)
  | 44 => ("LispMachineModel", "fromOf", "[I", true)
  | 45 => ("LispMachineModel", "calls", "I", false)
  | 46 => ("LispMachineModel", "built", "[I", true)
  | 47 => ("LispMachineModel", "builtSize", "I", false)
  | 48 => ("LispMachineModel", "walk", "[I", true)
  | 49 => ("LispMachineModel", "walking", "I", false)
  | 50 => ("LispMachineModel", "its", "[I", true)
  | 51 => ("LispMachineModel", "itsMany", "I", false)
  | 52 => ("LispMachineModel", "topVariable", "[I", true)
  | 53 => ("LispMachineModel", "topValue", "[I", true)
  | 54 => ("LispMachineModel", "tops", "I", false)
  | 55 => ("LispMachineModel", "evalTerm", "[I", true)
  | 56 => ("LispMachineModel", "evalRest", "[I", true)
  | 57 => ("LispMachineModel", "evalFrom", "[I", true)
  | 58 => ("LispMachineModel", "evalDef", "[I", true)
  | 59 => ("LispMachineModel", "evalBase", "[I", true)
  | 60 => ("LispMachineModel", "evalEnds", "[Z", true)
  | 61 => ("LispMachineModel", "evals", "I", false)
  | 62 => ("LispMachineModel", "value", "[I", true)
  | 63 => ("LispMachineModel", "values", "I", false)
  | 64 => ("LispMachineModel", "evalLimit", "I", false)
  | 65 => ("LispMachineModel", "evalWhy", "I", false)
  | 66 => ("LispMachineModel", "evalDone", "Z", false)
  | 67 => ("LispMachineModel", "evalValue", "I", false)
  | 68 => ("LispMachineModel", "mapped", "[I", true)
  | _ => ("LispMachineModel", "took", "Z", false)
def tyX10 : Nat → FieldType := fun k => match k with
  | 0 => .array .int
  | 1 => .array .int
  | 2 => .array .int
  | 3 => .array .int
  | 4 => .array .int
  | 5 => .array .long
  | 6 => .array .int
  | 7 => .int
  | 8 => .array .int
  | 9 => .array .int
  | 10 => .int
  | 11 => .array .int
  | 12 => .array .int
  | 13 => .int
  | 14 => .array .int
  | 15 => .int
  | 16 => .array .int
  | 17 => .int
  | 18 => .array .int
  | 19 => .int
  | 20 => .int
  | 21 => .int
  | 22 => .int
  | 23 => .array .int
  | 24 => .array .int
  | 25 => .array .int
  | 26 => .array .int
  | 27 => .int
  | 28 => .array .int
  | 29 => .int
  | 30 => .int
  | 31 => .boolean
  | 32 => .int
  | 33 => .array .int
  | 34 => .array .int
  | 35 => .array .int
  | 36 => .array .int
  | 37 => .int
  | 38 => .int
  | 39 => .int
  | 40 => .int
  | 41 => .int
  | 42 => .array .int
  | 43 => .array .int
  | 44 => .array .int
  | 45 => .int
  | 46 => .array .int
  | 47 => .int
  | 48 => .array .int
  | 49 => .int
  | 50 => .array .int
  | 51 => .int
  | 52 => .array .int
  | 53 => .array .int
  | 54 => .int
  | 55 => .array .int
  | 56 => .array .int
  | 57 => .array .int
  | 58 => .array .int
  | 59 => .array .int
  | 60 => .array .boolean
  | 61 => .int
  | 62 => .array .int
  | 63 => .int
  | 64 => .int
  | 65 => .int
  | 66 => .boolean
  | 67 => .int
  | 68 => .array .int
  | _ => .boolean
abbrev wsX100 : List Cond := u_ws RX10 TX10 70
theorem nmX10 : ∀ a, a < 70 → ∀ b, b < 70 → a ≠ b → (TX10 a).2.1 ≠ (TX10 b).2.1 := by decide +kernel
theorem tyX10_ok : ∀ k, k < 70 → parseFieldDescriptor (TX10 k).2.2.1 = some (tyX10 k) := by decide +kernel
abbrev cX10_init : ByteArray := prog_12_method_1_code
def yX10_init : MethodName := ⟨RX10, "<init>", "()V"⟩
abbrev cX10_said : ByteArray := prog_12_method_3_code
def yX10_said : MethodName := ⟨RX10, "said", "(IIIIIIII)V"⟩
abbrev cX10_spell : ByteArray := prog_12_method_4_code
def yX10_spell : MethodName := ⟨RX10, "spell", "(I)V"⟩
abbrev cX10_slot : ByteArray := prog_12_method_5_code
def yX10_slot : MethodName := ⟨RX10, "slot", "(II)I"⟩
abbrev cX10_slotOf : ByteArray := prog_12_method_6_code
def yX10_slotOf : MethodName := ⟨RX10, "slotOf", "(I)I"⟩
abbrev cX10_spelled : ByteArray := prog_12_method_7_code
def yX10_spelled : MethodName := ⟨RX10, "spelled", "(IIZ)I"⟩
abbrev cX10_added : ByteArray := prog_12_method_8_code
def yX10_added : MethodName := ⟨RX10, "added", "(III)I"⟩
abbrev cX10_pair : ByteArray := prog_12_method_9_code
def yX10_pair : MethodName := ⟨RX10, "pair", "(II)I"⟩
abbrev cX10_natural : ByteArray := prog_12_method_10_code
def yX10_natural : MethodName := ⟨RX10, "natural", "(J)I"⟩
abbrev cX10_isWord : ByteArray := prog_12_method_11_code
def yX10_isWord : MethodName := ⟨RX10, "isWord", "(I)Z"⟩
abbrev cX10_symbol : ByteArray := prog_12_method_12_code
def yX10_symbol : MethodName := ⟨RX10, "symbol", "()I"⟩
abbrev cX10_forget : ByteArray := prog_12_method_13_code
def yX10_forget : MethodName := ⟨RX10, "forget", "(I)V"⟩
abbrev cX10_isPair : ByteArray := prog_12_method_14_code
def yX10_isPair : MethodName := ⟨RX10, "isPair", "(I)Z"⟩
abbrev cX10_isNatural : ByteArray := prog_12_method_15_code
def yX10_isNatural : MethodName := ⟨RX10, "isNatural", "(I)Z"⟩
abbrev cX10_isSymbol : ByteArray := prog_12_method_16_code
def yX10_isSymbol : MethodName := ⟨RX10, "isSymbol", "(I)Z"⟩
abbrev cX10_list1 : ByteArray := prog_12_method_17_code
def yX10_list1 : MethodName := ⟨RX10, "list1", "(I)I"⟩
abbrev cX10_list2 : ByteArray := prog_12_method_18_code
def yX10_list2 : MethodName := ⟨RX10, "list2", "(II)I"⟩
abbrev cX10_list3 : ByteArray := prog_12_method_19_code
def yX10_list3 : MethodName := ⟨RX10, "list3", "(III)I"⟩
abbrev cX10_list4 : ByteArray := prog_12_method_20_code
def yX10_list4 : MethodName := ⟨RX10, "list4", "(IIII)I"⟩
abbrev cX10_lengthOf : ByteArray := prog_12_method_21_code
def yX10_lengthOf : MethodName := ⟨RX10, "lengthOf", "(I)I"⟩
abbrev cX10_nth : ByteArray := prog_12_method_22_code
def yX10_nth : MethodName := ⟨RX10, "nth", "(II)I"⟩
abbrev cX10_isDigit : ByteArray := prog_12_method_23_code
def yX10_isDigit : MethodName := ⟨RX10, "isDigit", "(I)Z"⟩
abbrev cX10_isAtom : ByteArray := prog_12_method_24_code
def yX10_isAtom : MethodName := ⟨RX10, "isAtom", "(I)Z"⟩
abbrev cX10_skip : ByteArray := prog_12_method_25_code
def yX10_skip : MethodName := ⟨RX10, "skip", "()V"⟩
abbrev cX10_bad : ByteArray := prog_12_method_26_code
def yX10_bad : MethodName := ⟨RX10, "bad", "(II)V"⟩
abbrev cX10_mayBegin : ByteArray := prog_12_method_27_code
def yX10_mayBegin : MethodName := ⟨RX10, "mayBegin", "()Z"⟩
abbrev cX10_begin : ByteArray := prog_12_method_28_code
def yX10_begin : MethodName := ⟨RX10, "begin", "(I)V"⟩
abbrev cX10_deliver : ByteArray := prog_12_method_29_code
def yX10_deliver : MethodName := ⟨RX10, "deliver", "(I)V"⟩
abbrev cX10_close : ByteArray := prog_12_method_30_code
def yX10_close : MethodName := ⟨RX10, "close", "()V"⟩
abbrev cX10_atom : ByteArray := prog_12_method_31_code
def yX10_atom : MethodName := ⟨RX10, "atom", "(II)I"⟩
abbrev cX10_isInList : ByteArray := prog_12_method_32_code
def yX10_isInList : MethodName := ⟨RX10, "isInList", "()Z"⟩
abbrev cX10_readWord : ByteArray := prog_12_method_33_code
def yX10_readWord : MethodName := ⟨RX10, "readWord", "(I)V"⟩
abbrev cX10_reads : ByteArray := prog_12_method_34_code
def yX10_reads : MethodName := ⟨RX10, "reads", "()Z"⟩
abbrev cX10_tellLetter : ByteArray := prog_12_method_35_code
def yX10_tellLetter : MethodName := ⟨RX10, "tellLetter", "(I)V"⟩
abbrev cX10_isFull : ByteArray := prog_12_method_36_code
def yX10_isFull : MethodName := ⟨RX10, "isFull", "()Z"⟩
abbrev cX10_tellAtom : ByteArray := prog_12_method_37_code
def yX10_tellAtom : MethodName := ⟨RX10, "tellAtom", "(I)V"⟩
abbrev cX10_isQuoted : ByteArray := prog_12_method_38_code
def yX10_isQuoted : MethodName := ⟨RX10, "isQuoted", "(I)Z"⟩
abbrev cX10_later : ByteArray := prog_12_method_39_code
def yX10_later : MethodName := ⟨RX10, "later", "(I)V"⟩
abbrev cX10_tellObject : ByteArray := prog_12_method_40_code
def yX10_tellObject : MethodName := ⟨RX10, "tellObject", "(I)V"⟩
abbrev cX10_isVariable : ByteArray := prog_12_method_41_code
def yX10_isVariable : MethodName := ⟨RX10, "isVariable", "(I)Z"⟩
abbrev cX10_isConstant : ByteArray := prog_12_method_42_code
def yX10_isConstant : MethodName := ⟨RX10, "isConstant", "(I)Z"⟩
abbrev cX10_isCall : ByteArray := prog_12_method_43_code
def yX10_isCall : MethodName := ⟨RX10, "isCall", "(I)Z"⟩
abbrev cX10_isCallOf : ByteArray := prog_12_method_44_code
def yX10_isCallOf : MethodName := ⟨RX10, "isCallOf", "(II)Z"⟩
abbrev cX10_constantOf : ByteArray := prog_12_method_45_code
def yX10_constantOf : MethodName := ⟨RX10, "constantOf", "(I)I"⟩
abbrev cX10_valueOf : ByteArray := prog_12_method_46_code
def yX10_valueOf : MethodName := ⟨RX10, "valueOf", "(I)I"⟩
abbrev cX10_term : ByteArray := prog_12_method_47_code
def yX10_term : MethodName := ⟨RX10, "term", "(II)I"⟩
abbrev cX10_functionOf : ByteArray := prog_12_method_48_code
def yX10_functionOf : MethodName := ⟨RX10, "functionOf", "(I)I"⟩
abbrev cX10_manyOf : ByteArray := prog_12_method_49_code
def yX10_manyOf : MethodName := ⟨RX10, "manyOf", "(I)I"⟩
abbrev cX10_isReserved : ByteArray := prog_12_method_50_code
def yX10_isReserved : MethodName := ⟨RX10, "isReserved", "(I)Z"⟩
abbrev cX10_sizeOf : ByteArray := prog_12_method_52_code
def yX10_sizeOf : MethodName := ⟨RX10, "sizeOf", "(I)I"⟩
abbrev cX10_callFrom : ByteArray := prog_12_method_53_code
def yX10_callFrom : MethodName := ⟨RX10, "callFrom", "(II)I"⟩
abbrev cX10_build : ByteArray := prog_12_method_54_code
def yX10_build : MethodName := ⟨RX10, "build", "(I)V"⟩
abbrev cX10_openCall : ByteArray := prog_12_method_55_code
def yX10_openCall : MethodName := ⟨RX10, "openCall", "(I)V"⟩
abbrev cX10_beginTerm : ByteArray := prog_12_method_56_code
def yX10_beginTerm : MethodName := ⟨RX10, "beginTerm", "(I)Z"⟩
abbrev cX10_termOf : ByteArray := prog_12_method_57_code
def yX10_termOf : MethodName := ⟨RX10, "termOf", "(I)I"⟩
abbrev cX10_walkTo : ByteArray := prog_12_method_58_code
def yX10_walkTo : MethodName := ⟨RX10, "walkTo", "(I)V"⟩
abbrev cX10_walkOn : ByteArray := prog_12_method_59_code
def yX10_walkOn : MethodName := ⟨RX10, "walkOn", "()I"⟩
abbrev cX10_hasCall : ByteArray := prog_12_method_60_code
def yX10_hasCall : MethodName := ⟨RX10, "hasCall", "(II)Z"⟩
abbrev cX10_variablesOf : ByteArray := prog_12_method_62_code
def yX10_variablesOf : MethodName := ⟨RX10, "variablesOf", "(I)V"⟩
abbrev cX10_beginEval : ByteArray := prog_12_method_63_code
def yX10_beginEval : MethodName := ⟨RX10, "beginEval", "(IIIZ)V"⟩
abbrev cX10_numberOf : ByteArray := prog_12_method_64_code
def yX10_numberOf : MethodName := ⟨RX10, "numberOf", "(I)J"⟩
abbrev cX10_truth : ByteArray := prog_12_method_65_code
def yX10_truth : MethodName := ⟨RX10, "truth", "(Z)I"⟩
abbrev cX10_basic : ByteArray := prog_12_method_66_code
def yX10_basic : MethodName := ⟨RX10, "basic", "(II)I"⟩
abbrev cX10_takeValue : ByteArray := prog_12_method_67_code
def yX10_takeValue : MethodName := ⟨RX10, "takeValue", "(Z)V"⟩
abbrev cX10_goOn : ByteArray := prog_12_method_68_code
def yX10_goOn : MethodName := ⟨RX10, "goOn", "(Z)V"⟩
abbrev cX10_evaluated : ByteArray := prog_12_method_69_code
def yX10_evaluated : MethodName := ⟨RX10, "evaluated", "(IZ)I"⟩
abbrev cX10_isNewName : ByteArray := prog_12_method_70_code
def yX10_isNewName : MethodName := ⟨RX10, "isNewName", "(I)Z"⟩
abbrev cX10_definition : ByteArray := prog_12_method_71_code
def yX10_definition : MethodName := ⟨RX10, "definition", "(I)I"⟩
abbrev cX10_areVariables : ByteArray := prog_12_method_72_code
def yX10_areVariables : MethodName := ⟨RX10, "areVariables", "(II)Z"⟩
abbrev cX10_isIn : ByteArray := prog_12_method_73_code
def yX10_isIn : MethodName := ⟨RX10, "isIn", "(II)Z"⟩
abbrev cX10_hasOnly : ByteArray := prog_12_method_74_code
def yX10_hasOnly : MethodName := ⟨RX10, "hasOnly", "(II)Z"⟩
abbrev cX10_tellOut : ByteArray := prog_12_method_75_code
def yX10_tellOut : MethodName := ⟨RX10, "tellOut", "(I)V"⟩
abbrev cX10_toldValue : ByteArray := prog_12_method_76_code
def yX10_toldValue : MethodName := ⟨RX10, "toldValue", "(I)I"⟩
abbrev cX10_eval : ByteArray := prog_12_method_77_code
def yX10_eval : MethodName := ⟨RX10, "eval", "(I)I"⟩
abbrev cX10_with : ByteArray := prog_12_method_78_code
def yX10_with : MethodName := ⟨RX10, "with", "(I)I"⟩
abbrev cX10_map : ByteArray := prog_12_method_79_code
def yX10_map : MethodName := ⟨RX10, "map", "(I)I"⟩
abbrev cX10_defun : ByteArray := prog_12_method_80_code
def yX10_defun : MethodName := ⟨RX10, "defun", "(IZ)I"⟩
abbrev cX10_undo : ByteArray := prog_12_method_81_code
def yX10_undo : MethodName := ⟨RX10, "undo", "(I)I"⟩
abbrev cX10_show : ByteArray := prog_12_method_82_code
def yX10_show : MethodName := ⟨RX10, "show", "(I)I"⟩
abbrev cX10_command : ByteArray := prog_12_method_83_code
def yX10_command : MethodName := ⟨RX10, "command", "(I)I"⟩
abbrev cX10_feed : ByteArray := prog_12_method_84_code
def yX10_feed : MethodName := ⟨RX10, "feed", "(IIIII)V"⟩
abbrev cX10_end : ByteArray := prog_12_method_85_code
def yX10_end : MethodName := ⟨RX10, "end", "(I)I"⟩
abbrev cX10_fuel : ByteArray := prog_12_method_86_code
def yX10_fuel : MethodName := ⟨RX10, "fuel", "(I)I"⟩
abbrev cX10_run : ByteArray := prog_12_method_87_code
def yX10_run : MethodName := ⟨RX10, "run", "()I"⟩
abbrev cX10_fault : ByteArray := prog_12_method_88_code
def yX10_fault : MethodName := ⟨RX10, "fault", "(I)I"⟩
abbrev cX10_steps : ByteArray := prog_12_method_89_code
def yX10_steps : MethodName := ⟨RX10, "steps", "()I"⟩
abbrev cX10_functions : ByteArray := prog_12_method_90_code
def yX10_functions : MethodName := ⟨RX10, "functions", "()I"⟩
abbrev cX10_size : ByteArray := prog_12_method_91_code
def yX10_size : MethodName := ⟨RX10, "size", "()I"⟩
abbrev cX10_letter : ByteArray := prog_12_method_92_code
def yX10_letter : MethodName := ⟨RX10, "letter", "(I)I"⟩
def RJ11 : String := "java/lang/Character"
def TJ11 : u_T := fun k => match k with
  | _ => ("", "", "", false)
def tyJ11 : Nat → FieldType := fun k => match k with
  | _ => .int
abbrev wsJ110 : List Cond := u_ws RJ11 TJ11 0
theorem nmJ11 : ∀ a, a < 0 → ∀ b, b < 0 → a ≠ b → (TJ11 a).2.1 ≠ (TJ11 b).2.1 := by decide +kernel
theorem tyJ11_ok : ∀ k, k < 0 → parseFieldDescriptor (TJ11 k).2.2.1 = some (tyJ11 k) := by decide +kernel
abbrev cJ11_isValidCodePoint_9a6ad : ByteArray := prog_13_method_11_code
def yJ11_isValidCodePoint_9a6ad : MethodName := ⟨RJ11, "isValidCodePoint", "(I)Z"⟩
abbrev cJ11_highSurrogate_5068e : ByteArray := prog_13_method_28_code
def yJ11_highSurrogate_5068e : MethodName := ⟨RJ11, "highSurrogate", "(I)C"⟩
abbrev cJ11_lowSurrogate_5068e : ByteArray := prog_13_method_29_code
def yJ11_lowSurrogate_5068e : MethodName := ⟨RJ11, "lowSurrogate", "(I)C"⟩
def RJx8e188 : String := "java/lang/Cloneable"
def TJx8e188 : u_T := fun k => match k with
  | _ => ("", "", "", false)
def tyJx8e188 : Nat → FieldType := fun k => match k with
  | _ => .int
theorem nmJx8e188 : ∀ a, a < 0 → ∀ b, b < 0 → a ≠ b → (TJx8e188 a).2.1 ≠ (TJx8e188 b).2.1 := by decide +kernel
theorem tyJx8e188_ok : ∀ k, k < 0 → parseFieldDescriptor (TJx8e188 k).2.2.1 = some (tyJx8e188 k) := by decide +kernel
def RJ9 : String := "java/lang/Math"
def TJ9 : u_T := fun k => match k with
  | _ => ("", "", "", false)
def tyJ9 : Nat → FieldType := fun k => match k with
  | _ => .int
abbrev wsJ90 : List Cond := u_ws RJ9 TJ9 0
theorem nmJ9 : ∀ a, a < 0 → ∀ b, b < 0 → a ≠ b → (TJ9 a).2.1 ≠ (TJ9 b).2.1 := by decide +kernel
theorem tyJ9_ok : ∀ k, k < 0 → parseFieldDescriptor (TJ9 k).2.2.1 = some (tyJ9 k) := by decide +kernel
abbrev cJ9_max_7cf53 : ByteArray := prog_15_method_65_code
def yJ9_max_7cf53 : MethodName := ⟨RJ9, "max", "(II)I"⟩
abbrev cJ9_max_f86c9 : ByteArray := prog_15_method_66_code
def yJ9_max_f86c9 : MethodName := ⟨RJ9, "max", "(JJ)J"⟩
abbrev cJ9_min_7cf53 : ByteArray := prog_15_method_69_code
def yJ9_min_7cf53 : MethodName := ⟨RJ9, "min", "(II)I"⟩
def RJ0 : String := "java/lang/String"
def TJ0 : u_T := fun k => match k with
  | _ => ("", "", "", false)
def tyJ0 : Nat → FieldType := fun k => match k with
  | _ => .int
abbrev wsJ00 : List Cond := u_ws RJ0 TJ0 0
theorem nmJ0 : ∀ a, a < 0 → ∀ b, b < 0 → a ≠ b → (TJ0 a).2.1 ≠ (TJ0 b).2.1 := by decide +kernel
theorem tyJ0_ok : ∀ k, k < 0 → parseFieldDescriptor (TJ0 k).2.2.1 = some (tyJ0 k) := by decide +kernel
abbrev cJ0_length_8abf5 : ByteArray := prog_16_method_54_code
def yJ0_length_8abf5 : MethodName := ⟨RJ0, "length", "()I"⟩
abbrev cJ0_charAt_5068e : ByteArray := prog_16_method_56_code
def yJ0_charAt_5068e : MethodName := ⟨RJ0, "charAt", "(I)C"⟩
abbrev cJ0_indexOf_0f7a4 : ByteArray := prog_16_method_79_code
def yJ0_indexOf_0f7a4 : MethodName := ⟨RJ0, "indexOf", "(I)I"⟩
abbrev cJ0_indexOf_7cf53 : ByteArray := prog_16_method_80_code
def yJ0_indexOf_7cf53 : MethodName := ⟨RJ0, "indexOf", "(II)I"⟩
abbrev cJ0_coder_7d493 : ByteArray := prog_16_method_152_code
def yJ0_coder_7d493 : MethodName := ⟨RJ0, "coder", "()B"⟩
abbrev cJ0_isLatin1_aae02 : ByteArray := prog_16_method_154_code
def yJ0_isLatin1_aae02 : MethodName := ⟨RJ0, "isLatin1", "()Z"⟩
abbrev cJ0_checkIndex_df160 : ByteArray := prog_16_method_155_code
def yJ0_checkIndex_df160 : MethodName := ⟨RJ0, "checkIndex", "(II)V"⟩
abbrev cJ0_checkBoundsBeginEnd_23922 : ByteArray := prog_16_method_158_code
def yJ0_checkBoundsBeginEnd_23922 : MethodName := ⟨RJ0, "checkBoundsBeginEnd", "(III)V"⟩
def RJ1 : String := "java/lang/StringLatin1"
def TJ1 : u_T := fun k => match k with
  | _ => ("", "", "", false)
def tyJ1 : Nat → FieldType := fun k => match k with
  | _ => .int
abbrev wsJ10 : List Cond := u_ws RJ1 TJ1 0
theorem nmJ1 : ∀ a, a < 0 → ∀ b, b < 0 → a ≠ b → (TJ1 a).2.1 ≠ (TJ1 b).2.1 := by decide +kernel
theorem tyJ1_ok : ∀ k, k < 0 → parseFieldDescriptor (TJ1 k).2.2.1 = some (tyJ1 k) := by decide +kernel
abbrev cJ1_charAt_3b067 : ByteArray := prog_17_method_2_code
def yJ1_charAt_3b067 : MethodName := ⟨RJ1, "charAt", "([BI)C"⟩
abbrev cJ1_canEncode_9a6ad : ByteArray := prog_17_method_4_code
def yJ1_canEncode_9a6ad : MethodName := ⟨RJ1, "canEncode", "(I)Z"⟩
abbrev cJ1_indexOf_4cfef : ByteArray := prog_17_method_22_code
def yJ1_indexOf_4cfef : MethodName := ⟨RJ1, "indexOf", "([BIII)I"⟩
abbrev cJ1_indexOfChar_4cfef : ByteArray := prog_17_method_23_code
def yJ1_indexOfChar_4cfef : MethodName := ⟨RJ1, "indexOfChar", "([BIII)I"⟩
def RJ2 : String := "java/lang/StringUTF16"
def TJ2 : u_T := fun k => match k with
  | _ => ("", "", "", false)
def tyJ2 : Nat → FieldType := fun k => match k with
  | _ => .int
abbrev wsJ20 : List Cond := u_ws RJ2 TJ2 0
theorem nmJ2 : ∀ a, a < 0 → ∀ b, b < 0 → a ≠ b → (TJ2 a).2.1 ≠ (TJ2 b).2.1 := by decide +kernel
theorem tyJ2_ok : ∀ k, k < 0 → parseFieldDescriptor (TJ2 k).2.2.1 = some (tyJ2 k) := by decide +kernel
abbrev cJ2_getChar_3b067 : ByteArray := prog_18_method_5_code
def yJ2_getChar_3b067 : MethodName := ⟨RJ2, "getChar", "([BI)C"⟩
abbrev cJ2_length_9d52b : ByteArray := prog_18_method_6_code
def yJ2_length_9d52b : MethodName := ⟨RJ2, "length", "([B)I"⟩
abbrev cJ2_indexOf_4cfef : ByteArray := prog_18_method_40_code
def yJ2_indexOf_4cfef : MethodName := ⟨RJ2, "indexOf", "([BIII)I"⟩
abbrev cJ2_indexOfChar_4cfef : ByteArray := prog_18_method_47_code
def yJ2_indexOfChar_4cfef : MethodName := ⟨RJ2, "indexOfChar", "([BIII)I"⟩
abbrev cJ2_indexOfCharUnsafe_4cfef : ByteArray := prog_18_method_48_code
def yJ2_indexOfCharUnsafe_4cfef : MethodName := ⟨RJ2, "indexOfCharUnsafe", "([BIII)I"⟩
abbrev cJ2_indexOfSupplementary_4cfef : ByteArray := prog_18_method_49_code
def yJ2_indexOfSupplementary_4cfef : MethodName := ⟨RJ2, "indexOfSupplementary", "([BIII)I"⟩
abbrev cJ2_charAt_3b067 : ByteArray := prog_18_method_83_code
def yJ2_charAt_3b067 : MethodName := ⟨RJ2, "charAt", "([BI)C"⟩
abbrev cJ2_checkIndex_2214a : ByteArray := prog_18_method_91_code
def yJ2_checkIndex_2214a : MethodName := ⟨RJ2, "checkIndex", "(I[B)V"⟩
abbrev cJ2_checkBoundsBeginEnd_d044e : ByteArray := prog_18_method_93_code
def yJ2_checkBoundsBeginEnd_d044e : MethodName := ⟨RJ2, "checkBoundsBeginEnd", "(II[B)V"⟩
def RJ10 : String := "java/lang/System"
def TJ10 : u_T := fun k => match k with
  | _ => ("", "", "", false)
def tyJ10 : Nat → FieldType := fun k => match k with
  | _ => .int
abbrev wsJ100 : List Cond := u_ws RJ10 TJ10 0
theorem nmJ10 : ∀ a, a < 0 → ∀ b, b < 0 → a ≠ b → (TJ10 a).2.1 ≠ (TJ10 b).2.1 := by decide +kernel
theorem tyJ10_ok : ∀ k, k < 0 → parseFieldDescriptor (TJ10 k).2.2.1 = some (tyJ10 k) := by decide +kernel
def RJ7 : String := "java/util/Arrays"
def TJ7 : u_T := fun k => match k with
  | _ => ("", "", "", false)
def tyJ7 : Nat → FieldType := fun k => match k with
  | _ => .int
abbrev wsJ70 : List Cond := u_ws RJ7 TJ7 0
theorem nmJ7 : ∀ a, a < 0 → ∀ b, b < 0 → a ≠ b → (TJ7 a).2.1 ≠ (TJ7 b).2.1 := by decide +kernel
theorem tyJ7_ok : ∀ k, k < 0 → parseFieldDescriptor (TJ7 k).2.2.1 = some (tyJ7 k) := by decide +kernel
abbrev cJ7_fill_53178 : ByteArray := prog_20_method_103_code
def yJ7_fill_53178 : MethodName := ⟨RJ7, "fill", "([II)V"⟩
abbrev cJ7_copyOf_59c91 : ByteArray := prog_20_method_123_code
def yJ7_copyOf_59c91 : MethodName := ⟨RJ7, "copyOf", "([II)[I"⟩
abbrev cJ7_copyOf_c38d5 : ByteArray := prog_20_method_124_code
def yJ7_copyOf_c38d5 : MethodName := ⟨RJ7, "copyOf", "([JI)[J"⟩
def RJ3 : String := "jdk/internal/util/Preconditions"
def TJ3 : u_T := fun k => match k with
  | _ => ("", "", "", false)
def tyJ3 : Nat → FieldType := fun k => match k with
  | _ => .int
abbrev wsJ30 : List Cond := u_ws RJ3 TJ3 0
theorem nmJ3 : ∀ a, a < 0 → ∀ b, b < 0 → a ≠ b → (TJ3 a).2.1 ≠ (TJ3 b).2.1 := by decide +kernel
theorem tyJ3_ok : ∀ k, k < 0 → parseFieldDescriptor (TJ3 k).2.2.1 = some (tyJ3 k) := by decide +kernel
abbrev cJ3_checkIndex_8e157 : ByteArray := prog_21_method_11_code
def yJ3_checkIndex_8e157 : MethodName := ⟨RJ3, "checkIndex", "(IILjava/util/function/BiFunction;)I"⟩
abbrev cJ3_checkFromToIndex_8c36e : ByteArray := prog_21_method_12_code
def yJ3_checkFromToIndex_8c36e : MethodName := ⟨RJ3, "checkFromToIndex", "(IIILjava/util/function/BiFunction;)I"⟩
def RL : String := "LispMachineLaw"
abbrev cL_law : ByteArray := code
def yL_law : MethodName := ⟨RL, "law", "([I)Z"⟩
abbrev vwCl : List vw_C := [(RX0, TX0, 7), (RX1, TX1, 6), (RX2, TX2, 4), (RX3, TX3, 12), (RX4, TX4, 2), (RX5, TX5, 14), (RX6, TX6, 6), (RX7, TX7, 5), (RX8, TX8, 4), (RX9, TX9, 7), (RX10, TX10, 70)]
end
section
/-! NUMBERS: an int is the wrapping of an integer, a long too -/
abbrev iZ (z : Int) : Int32 := Int32.ofInt z
abbrev lZ (z : Int) : Int64 := Int64.ofInt z
abbrev inI (z : Int) : Prop := -2147483648 ≤ z ∧ z < 2147483648
abbrev inL (z : Int) : Prop := -9223372036854775808 ≤ z ∧ z < 9223372036854775808
theorem iz_toInt {z : Int} (h : inI z) : (iZ z).toInt = z := Int32.toInt_ofInt_of_le (by omega) (by omega)
theorem lz_toInt {z : Int} (h : inL z) : (lZ z).toInt = z := Int64.toInt_ofInt_of_le (by omega) (by omega)
theorem iz_of (x : Int32) : ∃ z : Int, inI z ∧ x = iZ z := ⟨x.toInt, ⟨by have := x.le_toInt; omega, by have := x.toInt_lt; omega⟩, (Int32.ofInt_toInt x).symm⟩
theorem lz_of (x : Int64) : ∃ z : Int, inL z ∧ x = lZ z := ⟨x.toInt, ⟨by have := x.le_toInt; omega, by have := x.toInt_lt; omega⟩, (Int64.ofInt_toInt x).symm⟩
theorem iz_eq {a b : Int} (ha : inI a) (hb : inI b) : iZ a = iZ b ↔ a = b := by
  rw [← Int32.toInt_inj, iz_toInt ha, iz_toInt hb]
theorem iz_lt {a b : Int} (ha : inI a) (hb : inI b) : iZ a < iZ b ↔ a < b := by
  rw [Int32.lt_iff_toInt_lt, iz_toInt ha, iz_toInt hb]
theorem iz_le {a b : Int} (ha : inI a) (hb : inI b) : iZ a ≤ iZ b ↔ a ≤ b := by
  rw [Int32.le_iff_toInt_le, iz_toInt ha, iz_toInt hb]
theorem lz_eq {a b : Int} (ha : inL a) (hb : inL b) : lZ a = lZ b ↔ a = b := by
  rw [← Int64.toInt_inj, lz_toInt ha, lz_toInt hb]
theorem lz_lt {a b : Int} (ha : inL a) (hb : inL b) : lZ a < lZ b ↔ a < b := by
  rw [Int64.lt_iff_toInt_lt, lz_toInt ha, lz_toInt hb]
theorem lz_le {a b : Int} (ha : inL a) (hb : inL b) : lZ a ≤ lZ b ↔ a ≤ b := by
  rw [Int64.le_iff_toInt_le, lz_toInt ha, lz_toInt hb]
theorem iz_add (a b : Int) : iZ a + iZ b = iZ (a + b) := by first | exact (Int32.ofInt_add a b).symm | simp [Int32.ofInt_add]
theorem iz_sub (a b : Int) : iZ a - iZ b = iZ (a - b) := by first | exact (Int32.ofInt_sub a b).symm | simp [Int32.ofInt_sub]
theorem iz_mul (a b : Int) : iZ a * iZ b = iZ (a * b) := by first | exact (Int32.ofInt_mul a b).symm | simp [Int32.ofInt_mul]
theorem lz_add (a b : Int) : lZ a + lZ b = lZ (a + b) := by first | exact (Int64.ofInt_add a b).symm | simp [Int64.ofInt_add]
theorem lz_sub (a b : Int) : lZ a - lZ b = lZ (a - b) := by first | exact (Int64.ofInt_sub a b).symm | simp [Int64.ofInt_sub]
theorem lz_mul (a b : Int) : lZ a * lZ b = lZ (a * b) := by first | exact (Int64.ofInt_mul a b).symm | simp [Int64.ofInt_mul]
theorem iz_clamp {z : Int} (h : inI z) : (iZ z).toNatClampNeg = z.toNat := by
  rw [← Int32.toNat_toInt, iz_toInt h]
theorem iz_in {z : Int} {n : Nat} (h0 : 0 ≤ z) (h1 : z < n) (h2 : z < 2147483648) : vp_in (iZ z) n := by
  rw [vp_in_iff, iz_toInt ⟨by omega, h2⟩]
  exact ⟨h0, h1⟩
theorem iz_i2l {z : Int} (h : inI z) : (iZ z).toInt64 = lZ z := by
  apply Int64.toInt_inj.mp
  rw [Int32.toInt_toInt64, iz_toInt h, lz_toInt ⟨by omega, by omega⟩]
theorem iz_l2i (z : Int) : (lZ z).toInt32 = iZ z := by
  apply Int32.toInt_inj.mp
  first | (simp [Int64.toInt_toInt32]; done) | (rw [Int64.toInt_toInt32]; simp; omega)
def b2i (b : Bool) : Int := if b then 1 else 0
theorem b2i_in (b : Bool) : inI (b2i b) := by cases b <;> decide
theorem b2i_nar (b : Bool) : narrow .boolean (.int (iZ (b2i b))) = .int (iZ (b2i b)) := by cases b <;> decide +kernel
theorem b2i_fit (b : Bool) : fits .boolean (.int (iZ (b2i b))) = true := by cases b <;> decide +kernel
/-! TABLES -/
def pw_nest : Cond → Bool
  | .fieldLinkNest .. => true
  | .methodLinkNest .. => true
  | _ => false
def pw_T : List Cond := lw_tbl.filter goodWord
def pw_N : List Cond := lw_tbl.filter pw_nest
theorem pw_in {w : Cond} (h : w ∈ lw_tbl) (g : goodWord w = true) : w ∈ pw_T := List.mem_filter.mpr ⟨h, g⟩
theorem pw_inN {w : Cond} (h : w ∈ lw_tbl) (g : pw_nest w = true) : w ∈ pw_N := List.mem_filter.mpr ⟨h, g⟩
theorem pw_good {w : Cond} (h : w ∈ pw_T) : (w.onTables && w.keeps) = true ∨ ∃ ty, w = .arrayClass ty := good_of_word (List.mem_filter.mp h).2
theorem pw_goodIn {c0 c1 : Cond} (h : c1 ∈ pw_T) : GoodIn (c0 :: pw_T) (c1 :: pw_T) := by
  intro w hw
  rcases List.mem_cons.mp hw with rfl | hw
  · exact ⟨List.mem_cons_of_mem _ h, pw_good h⟩
  · exact ⟨List.mem_cons_of_mem _ hw, pw_good hw⟩
/-! WORLDS by places: a place's address and what lies there -/
abbrev pw_W : Type := Nat → Nat × Option va_E
/-- the classes' numbers, the array classes, the base, the addresses of the constants -/
abbrev pw_P : Type := va_G × (Nat → ClassId) × Nat × (Nat → Nat)
abbrev pw_B (g : pw_P) : Nat := g.2.2.1
abbrev pw_A (g : pw_P) : Nat → Prop := fun q => g.2.2.1 ≤ q
def pw_tys (k : Nat → ClassId) : List (ClassId × FieldType) := [(k 0, .int), (k 1, .long), (k 2, .char), (k 3, .boolean), (k 4, .object "LispMachine$Definition"), (k 5, .object "LispMachine$Call")]
def pw_K (g : pw_P) (U : State) : Prop := va_K g.1 vwCl (pw_tys g.2.1) U
def AI (g : pw_P) (n : Nat) (f : Nat → Int) : va_E := .inl (g.2.1 0, n, .inl (fun j => iZ (f j)))
def AJ (g : pw_P) (n : Nat) (f : Nat → Int) : va_E := .inl (g.2.1 1, n, .inr (.inl (fun j => lZ (f j))))
def AC (g : pw_P) (n : Nat) (f : Nat → Int) : va_E := .inl (g.2.1 2, n, .inl (fun j => iZ (f j)))
def AZ (g : pw_P) (n : Nat) (f : Nat → Int) : va_E := .inl (g.2.1 3, n, .inl (fun j => iZ (f j)))
def AR (g : pw_P) (t n : Nat) (f : Nat → Option Nat) : va_E := .inl (g.2.1 t, n, .inr (.inr (.inr (.inr f))))
abbrev OB (ci : Nat) (fs : List Value) : va_E := .inr (ci, fs)
def pw_H (g : pw_P) (w : pw_W) (H : Heap) : Prop :=
  (∀ (k a : Nat) (e : va_E), w k = (a, some e) → va_at g.1 vwCl (a, e) H ∧ pw_B g ≤ a) ∧ ∀ (j k a : Nat) (e e' : va_E), w j = (a, some e) → w k = (a, some e') → j = k
theorem pw_H.put {g : pw_P} {w : pw_W} {H H1 : Heap} {k a : Nat} {e0 e : va_E} (h : pw_H g w H) (hk : w k = (a, some e0)) (he : va_at g.1 vwCl (a, e) H1) (oq : ∀ q : Nat, q ≠ a → H1[q]? = H[q]?) : pw_H g (va_up w k (a, some e)) H1 := by
  refine ⟨fun j b f hj => ?_, fun i j b f f' hi hj => ?_⟩
  · by_cases hjk : j = k
    · subst hjk
      rw [va_up_self] at hj
      cases hj
      exact ⟨he, (h.1 _ _ _ hk).2⟩
    · rw [va_up_ne _ _ hjk] at hj
      have h1 := h.1 j b f hj
      refine ⟨h1.1.kept (oq b fun hb => ?_), h1.2⟩
      subst hb
      exact hjk (h.2 _ _ _ _ _ hj hk)
  · by_cases hik : i = k
    · subst hik
      by_cases hjk : j = i
      · exact hjk.symm
      · rw [va_up_self] at hi
        rw [va_up_ne _ _ hjk] at hj
        cases hi
        exact absurd (h.2 _ _ _ _ _ hj hk) hjk
    · rw [va_up_ne _ _ hik] at hi
      by_cases hjk : j = k
      · subst hjk
        rw [va_up_self] at hj
        cases hj
        exact absurd (h.2 _ _ _ _ _ hi hk) hik
      · rw [va_up_ne _ _ hjk] at hj
        exact h.2 _ _ _ _ _ hi hj
theorem pw_H.new {g : pw_P} {w : pw_W} {H H1 : Heap} {e : va_E} (h : pw_H g w H) (oq : ∀ q : Nat, q < H.size → H1[q]? = H[q]?) (he : va_at g.1 vwCl (H.size, e) H1) (hB : pw_B g ≤ H.size) (k : Nat) : pw_H g (va_up w k (H.size, some e)) H1 := by
  refine ⟨fun j b f hj => ?_, fun i j b f f' hi hj => ?_⟩
  · by_cases hjk : j = k
    · subst hjk
      rw [va_up_self] at hj
      cases hj
      exact ⟨he, hB⟩
    · rw [va_up_ne _ _ hjk] at hj
      have h1 := h.1 j b f hj
      exact ⟨h1.1.kept (oq b h1.1.lt), h1.2⟩
  · by_cases hik : i = k
    · subst hik
      by_cases hjk : j = i
      · exact hjk.symm
      · rw [va_up_self] at hi
        rw [va_up_ne _ _ hjk] at hj
        cases hi
        have h1 := (h.1 _ _ _ hj).1.lt
        exact absurd h1 (Nat.lt_irrefl _)
    · rw [va_up_ne _ _ hik] at hi
      by_cases hjk : j = k
      · subst hjk
        rw [va_up_self] at hj
        cases hj
        have h1 := (h.1 _ _ _ hi).1.lt
        exact absurd h1 (Nat.lt_irrefl _)
      · rw [va_up_ne _ _ hjk] at hj
        exact h.2 _ _ _ _ _ hi hj
theorem pw_H.one {g : pw_P} {w : pw_W} {H : Heap} (h : pw_H g w H) {k a : Nat} {e : va_E} (hk : w k = (a, some e)) : va_P g.1 vwCl [(a, e)] H := by
  intro i q hq
  cases i with
  | zero => cases hq; exact (h.1 k a e hk).1
  | succ i => cases hq
end
section
/-! THE CONSTANTS: two texts, a table, a flag; they lie below the base -/
def pw_s0 : List Int32 := [110, 105, 108, 32, 116, 32, 113, 117, 111, 116, 101, 32, 105, 102, 32, 101, 113, 117, 97, 108, 32, 99, 111, 110, 115, 32, 105, 109, 112, 108, 105, 101, 115, 32, 43, 32, 45, 32, 60, 32, 99, 111, 110, 115, 112, 32, 99, 97, 114, 32, 99, 100, 114, 32, 110, 97, 116, 112, 32, 115, 121, 109, 98, 111, 108, 112, 32, 104, 101, 105, 103, 104, 116, 32, 110, 111, 116, 32, 101, 118, 97, 108, 32, 119, 105, 116, 104, 32, 109, 97, 112, 32, 100, 101, 102, 117, 110, 32, 114, 101, 100, 111, 32, 117, 110, 100, 111, 32, 115, 104, 111, 119, 32]
def pw_s1 : List Int32 := [32, 97, 98, 99, 100, 101, 102, 103, 104, 105, 106, 107, 108, 109, 110, 111, 112, 113, 114, 115, 116, 117, 118, 119, 120, 121, 122, 48, 49, 50, 51, 52, 53, 54, 55, 56, 57, 43, 45, 42, 47, 60, 62, 61, 63, 33, 95]
def pw_len : List Nat := [113, 47]
def pw_byt : List (List Int32) := [pw_s0, pw_s1]
def pw_t0 : String := "nil t quote if equal cons implies + - < consp car cdr natp symbolp height not eval with map defun redo undo show "
def pw_t1 : String := " abcdefghijklmnopqrstuvwxyz0123456789+-*/<>=?!_"
def pw_bt (j : Nat) : Int := ([-1, -1, -1, 3, 2, 2, 2, 2, 2, 2, 1, 1, 1, 1, 1, 1, 1] : List Int).getD j 0
/-- what is said of the constants: at 0, 1 the texts, at 2, 3 their bytes, at 4 the table -/
def pw_F (g : pw_P) (U : State) (H : Heap) : Prop :=
  (∀ w ∈ pw_N, va_Nw w U) ∧ vk_S 2 pw_len pw_byt (fun i => g.2.2.2 i) (fun i => g.2.2.2 (2 + i)) (pw_A g) U H ∧ (vk_R "LispMachine$Store" 34 pw_t0 (g.2.2.2 0) U ∧ vk_R "LispMachine$Store" 42 pw_t1 (g.2.2.2 1) U ∧ vk_R "LispMachine$Reader" 76 pw_t1 (g.2.2.2 1) U ∧ vk_R "LispMachine$Teller" 92 pw_t1 (g.2.2.2 1) U) ∧
  va_Z "java/lang/String" "COMPACT_STRINGS" "Z" (.int 1) (pw_A g) U H ∧ va_Z "LispMachine" "BASE_TAKES" "[I" (.ref (g.2.2.2 4)) (pw_A g) U H ∧ va_T .int (g.2.2.2 4) 17 (fun j => .int (iZ (pw_bt j))) (pw_A g) U H ∧ va_AO "LispMachine$Definition" U ∧ va_AO "LispMachine$Call" U
theorem pw_nw_warm {s U : State} (hW : s.WarmedH U.vm) {w : Cond} (hw : w ∈ pw_N) (h : va_Nw w s) : va_Nw w U := by
  have hn := (List.mem_filter.mp hw).2
  cases w <;> first | exact va_Nw.warmF hW h | exact va_Nw.warmM hW h | exact Bool.noConfusion hn
theorem pw_nw_same {s U : State} (hv : s.vm = U.vm) {w : Cond} (hw : w ∈ pw_N) (h : va_Nw w s) : va_Nw w U := by
  have hn := (List.mem_filter.mp hw).2
  cases w <;> first | exact va_Nw.same rfl hv h | exact Bool.noConfusion hn
theorem pw_F.go {g : pw_P} {s U : State} {H : Heap} {locs : List Loc} (h : pw_F g s s.heap) (hW : s.WarmedH U.vm) (hS : va_S (pw_A g) s.heap H locs) : pw_F g U H := by
  obtain ⟨h1, h2, ⟨h3, h4, h5, h6⟩, h7, h8, h9, h10, h11⟩ := h
  exact ⟨fun w hw => pw_nw_warm hW hw (h1 w hw), vk_S.moved hW.alike (h2.kept hS.2.1), ⟨h3.warm hW, h4.warm hW, h5.warm hW, h6.warm hW⟩, va_Z.moved hW.alike (h7.kept hS.2.1), va_Z.moved hW.alike (h8.kept hS.2.1), va_T.moved hW.alike (h9.kept hS.2.1), h10.moved hW.alike, h11.moved hW.alike⟩
theorem pw_F.blind {g : pw_P} {U : State} (fr : JFrame) (mk : MethodId) (a : Array Value) (h : pw_F g U U.heap) : pw_F g (U.calling fr mk a) (U.calling fr mk a).heap := by
  obtain ⟨h1, h2, ⟨h3, h4, h5, h6⟩, h7, h8, h9, h10, h11⟩ := h
  have hA : U.vm.Alike (U.calling fr mk a).vm := Vm.Alike.refl U.vm
  exact ⟨fun w hw => pw_nw_same (s := U) (U := U.calling fr mk a) rfl hw (h1 w hw), vk_S.moved hA h2, ⟨vk_R.same (u := U) (U := U.calling fr mk a) rfl h3, vk_R.same (u := U) (U := U.calling fr mk a) rfl h4, vk_R.same (u := U) (U := U.calling fr mk a) rfl h5, vk_R.same (u := U) (U := U.calling fr mk a) rfl h6⟩, va_Z.moved hA h7, va_Z.moved hA h8, va_T.moved hA h9, h10.moved hA, h11.moved hA⟩
/-- what a method's start asks: the world, the tables, the constants -/
def pw_Pc (g : pw_P) (av : List Value) (w : pw_W) : Array Value → State → Prop := va_Pc av (fun U => pw_B g ≤ U.heap.size ∧ pw_H g w U.heap ∧ pw_K g U ∧ pw_F g U U.heap)
def pw_Qc (g : pw_P) (post : Option Value → pw_W → Prop) : Array Value → State → Outcome → State → Prop := fun _ st oc t => (∃ (r : Option Value) (w : pw_W), oc = .returned r ∧ post r w ∧ pw_H g w t.heap) ∧ va_F (pw_A g) st t
/-- A CONTRACT: from the world w with these arguments the method returns r with world w', post r w' -/
def pw_M (g : pw_P) (l : Launch) (y : MethodName) (cc : ByteArray) (nL : Nat) (ret : Option FieldType) (rm : Room) (av : List Value) (w : pw_W) (post : Option Value → pw_W → Prop) : Prop :=
  Met l y (.code y cc nL ret :: pw_T) rm (pw_Pc g av w) (pw_Qc g post) rm.cells rm.slots (pw_A g)
theorem pw_blind {g : pw_P} {av : List Value} {w : pw_W} : FrameBlind (pw_Pc g av w) := by
  intro a U fr mk h
  obtain ⟨h1, h2, h3, h4, h5⟩ := h
  exact ⟨h1, h2, h3, va_K.moved (u := U) (U := U.calling fr mk a) (Vm.Alike.refl U.vm) h4, pw_F.blind fr mk a h5⟩
/-- what stays through a method's walk -/
def pw_C (g : pw_P) (p : Program) (s : State) (m : MethodId) (args : Array Value) (meth : Method) (c : Code) (cc : ByteArray) (nL : Nat) (own : String) : Prop :=
  p.tables.exec = Jvm.exec ∧ c.code = cc ∧ c.maxLocals = nL ∧ s.vm.findClass own = some m.cls ∧ (∀ w ∈ pw_T, w.before args s = true) ∧ meth.locks = false ∧ pw_B g ≤ s.heap.size ∧ pw_K g s ∧ pw_F g s s.heap
/-- THE WALK: at pc, with these locals, this stack, this world -/
def pw_G (g : pw_P) (p : Program) (l : Launch) (e : Env) (R : Room) (s : State) (m : MethodId) (args : Array Value) (below : List Frame) (meth : Method) (c : Code) (nL : Nat) (Q : State → Prop) (cells slots pc : Nat) (lv : List (Nat × Value)) (st : List Value) (w : pw_W) : Prop :=
  ∀ (ls : Array Slot) (H : Heap) (locs : List Loc), lv_has ls nL lv → pw_H g w H → va_S (pw_A g) s.heap H locs → W p l e R s m args below meth c H locs cells slots Q (F0 m pc ls st)
abbrev pw_Q (g : pw_P) (below : List Frame) (post : Option Value → pw_W → Prop) (args : Array Value) (s : State) (rm : Room) : State → Prop := MQ below (pw_Qc g post) args s rm.cells rm.slots (pw_A g)
/-- a contract out of the walk from the entry -/
theorem pw_M.of {g : pw_P} {l : Launch} {y : MethodName} {cc : ByteArray} {nL : Nat} {ret : Option FieldType} {rm : Room} {av : List Value} {w : pw_W} {post : Option Value → pw_W → Prop} {lv : List (Nat × Value)} (hy : plainName y.cls = true) (hav : (lg_sl av).length ≤ nL) (hlv : lv_args 0 av = lv)
    (body : ∀ (p : Program) (e : Env) (s : State) (m : MethodId) (args : Array Value) (below : List Frame) (meth : Method) (c : Code), pw_C g p s m args meth c cc nL y.cls → meth.sig.returnType = ret → meth.name = y.name → pw_G g p l e rm s m args below meth c nL (pw_Q g below post args s rm) 0 0 0 lv [] w) : pw_M g l y cc nL ret rm av w post := by
  refine Met.ofW (cc := cc) (maxL := nL) (ret := ret) hy rfl ?_
  intro p e s m args below meth c s₁ B hml hv
  obtain ⟨rfl, hB, hH, hK, hF⟩ := hv
  have hts := atoms_spec (ws := Cond.code y cc nL ret :: pw_T) B.pre
  have hown : s.vm.findClass y.cls = some m.cls := findClass_of_methodNamed B.named
  have h0 := body p e s m av.toArray below meth c ⟨B.exec, B.bytes, hml, hown, fun w hw => hts w (List.mem_cons_of_mem _ hw), B.notSynchronized, hB, hK, hF⟩ B.returns (name_of_methodNamed B.named B.method).1
  have hl := lv_entry av (n := nL) hav
  rw [hlv] at hl
  rw [lg_entry_eq]
  exact h0 _ s.heap [] hl hH va_S.rf
end
section
/-! LOCALS: read and set by their numbers, in order -/
def pl_g (lv : List (Nat × Value)) (i : Nat) : Option Value := (lv.find? (fun q => q.1 == i)).map (fun q => q.2)
theorem pl_get {ls : Array Slot} {nL : Nat} {lv : List (Nat × Value)} {i : Nat} {v : Value} (h : lv_has ls nL lv) (hg : pl_g lv i = some v) : ls[i]? = some (.val v) := by
  unfold pl_g at hg
  cases hf : lv.find? (fun q => q.1 == i) with
  | none => rw [hf] at hg; cases hg
  | some q =>
    rw [hf] at hg
    have h1 := List.mem_of_find?_eq_some hf
    have h2 := List.find?_some hf
    have h3 : q.1 = i := by simpa using h2
    have h4 : q.2 = v := Option.some.inj hg
    rw [← h3, ← h4]
    exact h.2.2 q h1
def pl_i (i : Nat) (v : Value) : List (Nat × Value) → List (Nat × Value)
  | [] => [(i, v)]
  | q :: r => if q.1 < i then q :: pl_i i v r else (i, v) :: q :: r
theorem pl_i_mem {i : Nat} {v : Value} : ∀ (l : List (Nat × Value)) (q : Nat × Value), q ∈ pl_i i v l → q = (i, v) ∨ q ∈ l
  | [], q, h => by
    rw [pl_i] at h
    exact Or.inl (List.mem_singleton.mp h)
  | x :: r, q, h => by
    rw [pl_i] at h
    split at h
    · rcases List.mem_cons.mp h with h | h
      · exact Or.inr (by rw [h]; exact List.mem_cons_self)
      · rcases pl_i_mem r q h with h | h
        · exact Or.inl h
        · exact Or.inr (List.mem_cons_of_mem _ h)
    · rcases List.mem_cons.mp h with h | h
      · exact Or.inl h
      · exact Or.inr h
def pl_1 (lv : List (Nat × Value)) (i : Nat) (v : Value) : List (Nat × Value) := pl_i i v (lv.filter (fun q => !(q.1 == i) && !(q.1 + 1 == i && q.2.category == 2)))
def pl_2 (lv : List (Nat × Value)) (i : Nat) (v : Value) : List (Nat × Value) := pl_i i v (lv.filter (fun q => !(q.1 == i) && (!(q.1 == i + 1) && !(q.1 + 1 == i && q.2.category == 2))))
theorem pl_has {ls : Array Slot} {nL i : Nat} {v : Value} {l l' : List (Nat × Value)} (h : lv_has ls nL ((i, v) :: l)) (hl : pl_i i v l = l') : lv_has ls nL l' := by
  subst hl
  refine ⟨h.1, h.2.1, fun q hq => h.2.2 q ?_⟩
  rcases pl_i_mem _ q hq with h | h
  · rw [h]; exact List.mem_cons_self
  · exact List.mem_cons_of_mem _ h
theorem iz_0 : iZ 0 = 0 := by decide
theorem lz_0 : lZ 0 = 0 := by decide
def cmpZ (a b : Int) : Int := if b < a then 1 else if a = b then 0 else -1
theorem cmpZ_in (a b : Int) : inI (cmpZ a b) := by unfold cmpZ; split <;> (try split) <;> decide
theorem cmpZ_lt (a b : Int) : cmpZ a b < 0 ↔ a < b := by unfold cmpZ; split <;> (try split) <;> constructor <;> intro h <;> omega
theorem cmpZ_le (a b : Int) : cmpZ a b ≤ 0 ↔ a ≤ b := by unfold cmpZ; split <;> (try split) <;> constructor <;> intro h <;> omega
theorem cmpZ_eq (a b : Int) : cmpZ a b = 0 ↔ a = b := by unfold cmpZ; split <;> (try split) <;> constructor <;> intro h <;> omega
theorem cmpZ_of {a b : Int} (ha : inL a) (hb : inL b) : lg_cmp (lZ a) (lZ b) = iZ (cmpZ a b) := by
  unfold lg_cmp cmpZ
  simp only [gt_iff_lt, lz_lt hb ha, lz_eq ha hb]
  split <;> (try split) <;> decide
section
variable {g : pw_P} {p : Program} {l : Launch} {e : Env} {R : Room} {s : State} {m : MethodId} {args : Array Value} {below : List Frame} {meth : Method} {c : Code} {cc : ByteArray} {nL : Nat} {own : String} {Q : State → Prop} {cells slots pc : Nat} {lv : List (Nat × Value)} {st : List Value} {w : pw_W}
theorem pw_iconst (C : pw_C g p s m args meth c cc nL own) {n : Int} (hd : decode cc pc = .ok (.iconst n, 1))
    (k : pw_G g p l e R s m args below meth c nL Q cells slots (pc + 1) lv (.int (iZ n) :: st) w) : pw_G g p l e R s m args below meth c nL Q cells slots pc lv st w :=
  fun ls H locs hl hH hS => lv_iconst C.1 C.2.1 hd rfl (k ls H locs hl hH hS)
theorem pw_bipush (C : pw_C g p s m args meth c cc nL own) {n : Int} (hd : decode cc pc = .ok (.bipush n, 2)) (hv : (Int8.ofInt n).toInt32 = iZ n)
    (k : pw_G g p l e R s m args below meth c nL Q cells slots (pc + 2) lv (.int (iZ n) :: st) w) : pw_G g p l e R s m args below meth c nL Q cells slots pc lv st w :=
  fun ls H locs hl hH hS => lv_bipush C.1 C.2.1 hd hv (k ls H locs hl hH hS)
theorem pw_sipush (C : pw_C g p s m args meth c cc nL own) {n : Int} (hd : decode cc pc = .ok (.sipush n, 3)) (hv : (Int16.ofInt n).toInt32 = iZ n)
    (k : pw_G g p l e R s m args below meth c nL Q cells slots (pc + 3) lv (.int (iZ n) :: st) w) : pw_G g p l e R s m args below meth c nL Q cells slots pc lv st w :=
  fun ls H locs hl hH hS => lv_sipush C.1 C.2.1 hd hv (k ls H locs hl hH hS)
theorem pw_lconst (C : pw_C g p s m args meth c cc nL own) {n : Fin 2} {z : Int} (hd : decode cc pc = .ok (.lconst n, 1)) (hv : Int64.ofNat (n : Nat) = lZ z)
    (k : pw_G g p l e R s m args below meth c nL Q cells slots (pc + 1) lv (.long (lZ z) :: st) w) : pw_G g p l e R s m args below meth c nL Q cells slots pc lv st w :=
  fun ls H locs hl hH hS => lv_lconst C.1 C.2.1 hd hv (k ls H locs hl hH hS)
theorem pw_ldc (C : pw_C g p s m args meth c cc nL own) {idx : Nat} {x : Int32} {z : Int} (hc : Cond.constant own idx x ∈ pw_T) (hv : x = iZ z) (hd : decode cc pc = .ok (.ldc idx, 2))
    (k : pw_G g p l e R s m args below meth c nL Q cells slots (pc + 2) lv (.int (iZ z) :: st) w) : pw_G g p l e R s m args below meth c nL Q cells slots pc lv st w :=
  fun ls H locs hl hH hS => lv_ldc C.1 C.2.1 C.2.2.2.1 (C.2.2.2.2.1 _ hc) hd (by rw [hv]; exact k ls H locs hl hH hS)
theorem pw_ldc2 (C : pw_C g p s m args meth c cc nL own) {idx : Nat} {x : Int64} {z : Int} (hc : Cond.constantLong own idx x ∈ pw_T) (hv : x = lZ z) (hd : decode cc pc = .ok (.ldc2_w idx, 3))
    (k : pw_G g p l e R s m args below meth c nL Q cells slots (pc + 3) lv (.long (lZ z) :: st) w) : pw_G g p l e R s m args below meth c nL Q cells slots pc lv st w :=
  fun ls H locs hl hH hS => lv_ldc2 C.1 C.2.1 C.2.2.2.1 (C.2.2.2.2.1 _ hc) hd (by rw [hv]; exact k ls H locs hl hH hS)
theorem pw_iload_n (C : pw_C g p s m args meth c cc nL own) {j : Fin 4} {i : Nat} {x : Int32} (hd : decode cc pc = .ok (.iload_n j, 1)) (hi : (j : Nat) = i) (hg : pl_g lv i = some (.int x))
    (k : pw_G g p l e R s m args below meth c nL Q cells slots (pc + 1) lv (.int x :: st) w) : pw_G g p l e R s m args below meth c nL Q cells slots pc lv st w :=
  fun ls H locs hl hH hS => lv_iload_n C.1 C.2.1 hd hi (pl_get hl hg) (k ls H locs hl hH hS)
theorem pw_iload (C : pw_C g p s m args meth c cc nL own) {i : Nat} {x : Int32} (hd : decode cc pc = .ok (.iload i, 2)) (hg : pl_g lv i = some (.int x))
    (k : pw_G g p l e R s m args below meth c nL Q cells slots (pc + 2) lv (.int x :: st) w) : pw_G g p l e R s m args below meth c nL Q cells slots pc lv st w :=
  fun ls H locs hl hH hS => lv_iload C.1 C.2.1 hd (pl_get hl hg) (k ls H locs hl hH hS)
theorem pw_lload_n (C : pw_C g p s m args meth c cc nL own) {j : Fin 4} {i : Nat} {x : Int64} (hd : decode cc pc = .ok (.lload_n j, 1)) (hi : (j : Nat) = i) (hg : pl_g lv i = some (.long x))
    (k : pw_G g p l e R s m args below meth c nL Q cells slots (pc + 1) lv (.long x :: st) w) : pw_G g p l e R s m args below meth c nL Q cells slots pc lv st w :=
  fun ls H locs hl hH hS => lv_lload_n C.1 C.2.1 hd hi (pl_get hl hg) (k ls H locs hl hH hS)
theorem pw_lload (C : pw_C g p s m args meth c cc nL own) {i : Nat} {x : Int64} (hd : decode cc pc = .ok (.lload i, 2)) (hg : pl_g lv i = some (.long x))
    (k : pw_G g p l e R s m args below meth c nL Q cells slots (pc + 2) lv (.long x :: st) w) : pw_G g p l e R s m args below meth c nL Q cells slots pc lv st w :=
  fun ls H locs hl hH hS => lv_lload C.1 C.2.1 hd (pl_get hl hg) (k ls H locs hl hH hS)
theorem pw_aload_n (C : pw_C g p s m args meth c cc nL own) {j : Fin 4} {i : Nat} {v : Value} (hd : decode cc pc = .ok (.aload_n j, 1)) (hi : (j : Nat) = i) (hg : pl_g lv i = some v) (hv : v = .null ∨ ∃ a, v = .ref a)
    (k : pw_G g p l e R s m args below meth c nL Q cells slots (pc + 1) lv (v :: st) w) : pw_G g p l e R s m args below meth c nL Q cells slots pc lv st w := by
  intro ls H locs hl hH hS
  rcases hv with rfl | ⟨a, rfl⟩
  · exact lv_aload_nN C.1 C.2.1 hd hi (pl_get hl hg) (k ls H locs hl hH hS)
  · exact lv_aload_n C.1 C.2.1 hd hi (pl_get hl hg) (k ls H locs hl hH hS)
theorem pw_aload (C : pw_C g p s m args meth c cc nL own) {i : Nat} {v : Value} (hd : decode cc pc = .ok (.aload i, 2)) (hg : pl_g lv i = some v) (hv : v = .null ∨ ∃ a, v = .ref a)
    (k : pw_G g p l e R s m args below meth c nL Q cells slots (pc + 2) lv (v :: st) w) : pw_G g p l e R s m args below meth c nL Q cells slots pc lv st w := by
  intro ls H locs hl hH hS
  rcases hv with rfl | ⟨a, rfl⟩
  · exact lv_aloadN C.1 C.2.1 hd (pl_get hl hg) (k ls H locs hl hH hS)
  · exact lv_aload C.1 C.2.1 hd (pl_get hl hg) (k ls H locs hl hH hS)
theorem pw_istore_n (C : pw_C g p s m args meth c cc nL own) {j : Fin 4} {i : Nat} {x : Int32} {lv' : List (Nat × Value)} (hd : decode cc pc = .ok (.istore_n j, 1)) (hi : (j : Nat) = i) (hn : i < nL) (hl' : pl_1 lv i (.int x) = lv')
    (k : pw_G g p l e R s m args below meth c nL Q cells slots (pc + 1) lv' st w) : pw_G g p l e R s m args below meth c nL Q cells slots pc lv (.int x :: st) w :=
  fun ls H locs hl hH hS => lv_istore_n C.1 C.2.1 hd hi hl hn rfl (fun ls' h' => k ls' H locs (pl_has h' hl') hH hS)
theorem pw_istore (C : pw_C g p s m args meth c cc nL own) {i : Nat} {x : Int32} {lv' : List (Nat × Value)} (hd : decode cc pc = .ok (.istore i, 2)) (hn : i < nL) (hl' : pl_1 lv i (.int x) = lv')
    (k : pw_G g p l e R s m args below meth c nL Q cells slots (pc + 2) lv' st w) : pw_G g p l e R s m args below meth c nL Q cells slots pc lv (.int x :: st) w :=
  fun ls H locs hl hH hS => lv_istore C.1 C.2.1 hd hl hn rfl (fun ls' h' => k ls' H locs (pl_has h' hl') hH hS)
theorem pw_lstore_n (C : pw_C g p s m args meth c cc nL own) {j : Fin 4} {i : Nat} {x : Int64} {lv' : List (Nat × Value)} (hd : decode cc pc = .ok (.lstore_n j, 1)) (hi : (j : Nat) = i) (hn : i + 1 < nL) (hl' : pl_2 lv i (.long x) = lv')
    (k : pw_G g p l e R s m args below meth c nL Q cells slots (pc + 1) lv' st w) : pw_G g p l e R s m args below meth c nL Q cells slots pc lv (.long x :: st) w :=
  fun ls H locs hl hH hS => lv_lstore_n C.1 C.2.1 hd hi hl hn rfl (fun ls' h' => k ls' H locs (pl_has h' hl') hH hS)
theorem pw_lstore (C : pw_C g p s m args meth c cc nL own) {i : Nat} {x : Int64} {lv' : List (Nat × Value)} (hd : decode cc pc = .ok (.lstore i, 2)) (hn : i + 1 < nL) (hl' : pl_2 lv i (.long x) = lv')
    (k : pw_G g p l e R s m args below meth c nL Q cells slots (pc + 2) lv' st w) : pw_G g p l e R s m args below meth c nL Q cells slots pc lv (.long x :: st) w :=
  fun ls H locs hl hH hS => lv_lstore C.1 C.2.1 hd hl hn rfl (fun ls' h' => k ls' H locs (pl_has h' hl') hH hS)
theorem pw_astore_n (C : pw_C g p s m args meth c cc nL own) {j : Fin 4} {i : Nat} {v : Value} {lv' : List (Nat × Value)} (hd : decode cc pc = .ok (.astore_n j, 1)) (hi : (j : Nat) = i) (hn : i < nL) (hv : v = .null ∨ ∃ a, v = .ref a) (hl' : pl_1 lv i v = lv')
    (k : pw_G g p l e R s m args below meth c nL Q cells slots (pc + 1) lv' st w) : pw_G g p l e R s m args below meth c nL Q cells slots pc lv (v :: st) w := by
  intro ls H locs hl hH hS
  rcases hv with rfl | ⟨a, rfl⟩
  · exact lv_astore_nN C.1 C.2.1 hd hi hl hn rfl (fun ls' h' => k ls' H locs (pl_has h' hl') hH hS)
  · exact lv_astore_n C.1 C.2.1 hd hi hl hn rfl (fun ls' h' => k ls' H locs (pl_has h' hl') hH hS)
theorem pw_astore (C : pw_C g p s m args meth c cc nL own) {i : Nat} {v : Value} {lv' : List (Nat × Value)} (hd : decode cc pc = .ok (.astore i, 2)) (hn : i < nL) (hv : v = .null ∨ ∃ a, v = .ref a) (hl' : pl_1 lv i v = lv')
    (k : pw_G g p l e R s m args below meth c nL Q cells slots (pc + 2) lv' st w) : pw_G g p l e R s m args below meth c nL Q cells slots pc lv (v :: st) w := by
  intro ls H locs hl hH hS
  rcases hv with rfl | ⟨a, rfl⟩
  · exact lv_astoreN C.1 C.2.1 hd hl hn rfl (fun ls' h' => k ls' H locs (pl_has h' hl') hH hS)
  · exact lv_astore C.1 C.2.1 hd hl hn rfl (fun ls' h' => k ls' H locs (pl_has h' hl') hH hS)
theorem pw_iinc (C : pw_C g p s m args meth c cc nL own) {i : Nat} {n z : Int} {lv' : List (Nat × Value)} (hd : decode cc pc = .ok (.iinc i n, 3)) (hg : pl_g lv i = some (.int (iZ z))) (hn : i < nL) (hl' : pl_1 lv i (.int (iZ (z + n))) = lv')
    (k : pw_G g p l e R s m args below meth c nL Q cells slots (pc + 3) lv' st w) : pw_G g p l e R s m args below meth c nL Q cells slots pc lv st w := by
  intro ls H locs hl hH hS
  have hl2 : lv_has ls nL ((i, .int (iZ z)) :: lv) := ⟨hl.1, hl.2.1, fun q hq => by
    rcases List.mem_cons.mp hq with rfl | hq
    · exact pl_get hl hg
    · exact hl.2.2 q hq⟩
  refine lv_iinc (k := 0) C.1 C.2.1 hd hl2 rfl (iz_add z n) hn rfl (fun ls' h' => k ls' H locs (pl_has h' ?_) hH hS)
  rw [← hl']
  unfold pl_1
  congr 1
  rw [List.filter_cons_of_neg (by simp)]
theorem pw_iadd (C : pw_C g p s m args meth c cc nL own) {a b : Int} (hd : decode cc pc = .ok (.iadd, 1))
    (k : pw_G g p l e R s m args below meth c nL Q cells slots (pc + 1) lv (.int (iZ (a + b)) :: st) w) : pw_G g p l e R s m args below meth c nL Q cells slots pc lv (.int (iZ b) :: .int (iZ a) :: st) w :=
  fun ls H locs hl hH hS => lv_iadd C.1 C.2.1 hd (by rw [iz_add]; exact k ls H locs hl hH hS)
theorem pw_isub (C : pw_C g p s m args meth c cc nL own) {a b : Int} (hd : decode cc pc = .ok (.isub, 1))
    (k : pw_G g p l e R s m args below meth c nL Q cells slots (pc + 1) lv (.int (iZ (a - b)) :: st) w) : pw_G g p l e R s m args below meth c nL Q cells slots pc lv (.int (iZ b) :: .int (iZ a) :: st) w :=
  fun ls H locs hl hH hS => lv_isub C.1 C.2.1 hd (by rw [iz_sub]; exact k ls H locs hl hH hS)
theorem pw_imul (C : pw_C g p s m args meth c cc nL own) {a b : Int} (hd : decode cc pc = .ok (.imul, 1))
    (k : pw_G g p l e R s m args below meth c nL Q cells slots (pc + 1) lv (.int (iZ (a * b)) :: st) w) : pw_G g p l e R s m args below meth c nL Q cells slots pc lv (.int (iZ b) :: .int (iZ a) :: st) w :=
  fun ls H locs hl hH hS => lv_imul C.1 C.2.1 hd (by rw [iz_mul]; exact k ls H locs hl hH hS)
theorem pw_ladd (C : pw_C g p s m args meth c cc nL own) {a b : Int} (hd : decode cc pc = .ok (.ladd, 1))
    (k : pw_G g p l e R s m args below meth c nL Q cells slots (pc + 1) lv (.long (lZ (a + b)) :: st) w) : pw_G g p l e R s m args below meth c nL Q cells slots pc lv (.long (lZ b) :: .long (lZ a) :: st) w :=
  fun ls H locs hl hH hS => lv_ladd C.1 C.2.1 hd (by rw [lz_add]; exact k ls H locs hl hH hS)
theorem pw_lsub (C : pw_C g p s m args meth c cc nL own) {a b : Int} (hd : decode cc pc = .ok (.lsub, 1))
    (k : pw_G g p l e R s m args below meth c nL Q cells slots (pc + 1) lv (.long (lZ (a - b)) :: st) w) : pw_G g p l e R s m args below meth c nL Q cells slots pc lv (.long (lZ b) :: .long (lZ a) :: st) w :=
  fun ls H locs hl hH hS => lv_lsub C.1 C.2.1 hd (by rw [lz_sub]; exact k ls H locs hl hH hS)
theorem pw_lmul (C : pw_C g p s m args meth c cc nL own) {a b : Int} (hd : decode cc pc = .ok (.lmul, 1))
    (k : pw_G g p l e R s m args below meth c nL Q cells slots (pc + 1) lv (.long (lZ (a * b)) :: st) w) : pw_G g p l e R s m args below meth c nL Q cells slots pc lv (.long (lZ b) :: .long (lZ a) :: st) w :=
  fun ls H locs hl hH hS => lv_lmul C.1 C.2.1 hd (by rw [lz_mul]; exact k ls H locs hl hH hS)
theorem pw_iand (C : pw_C g p s m args meth c cc nL own) {x y : Int32} {z : Int} (hd : decode cc pc = .ok (.iand, 1)) (hz : (x &&& y) = iZ z)
    (k : pw_G g p l e R s m args below meth c nL Q cells slots (pc + 1) lv (.int (iZ z) :: st) w) : pw_G g p l e R s m args below meth c nL Q cells slots pc lv (.int y :: .int x :: st) w :=
  fun ls H locs hl hH hS => lv_iand C.1 C.2.1 hd (by rw [hz]; exact k ls H locs hl hH hS)
theorem pw_ior (C : pw_C g p s m args meth c cc nL own) {x y : Int32} {z : Int} (hd : decode cc pc = .ok (.ior, 1)) (hz : (x ||| y) = iZ z)
    (k : pw_G g p l e R s m args below meth c nL Q cells slots (pc + 1) lv (.int (iZ z) :: st) w) : pw_G g p l e R s m args below meth c nL Q cells slots pc lv (.int y :: .int x :: st) w :=
  fun ls H locs hl hH hS => lv_ior C.1 C.2.1 hd (by rw [hz]; exact k ls H locs hl hH hS)
theorem pw_ishl (C : pw_C g p s m args meth c cc nL own) {x y : Int32} {z : Int} (hd : decode cc pc = .ok (.ishl, 1)) (hz : (x <<< (y &&& 31)) = iZ z)
    (k : pw_G g p l e R s m args below meth c nL Q cells slots (pc + 1) lv (.int (iZ z) :: st) w) : pw_G g p l e R s m args below meth c nL Q cells slots pc lv (.int y :: .int x :: st) w :=
  fun ls H locs hl hH hS => lv_ishl C.1 C.2.1 hd (by rw [hz]; exact k ls H locs hl hH hS)
theorem pw_ishr (C : pw_C g p s m args meth c cc nL own) {x y : Int32} {z : Int} (hd : decode cc pc = .ok (.ishr, 1)) (hz : (x >>> (y &&& 31)) = iZ z)
    (k : pw_G g p l e R s m args below meth c nL Q cells slots (pc + 1) lv (.int (iZ z) :: st) w) : pw_G g p l e R s m args below meth c nL Q cells slots pc lv (.int y :: .int x :: st) w :=
  fun ls H locs hl hH hS => lv_ishr C.1 C.2.1 hd (by rw [hz]; exact k ls H locs hl hH hS)
theorem pw_iushr (C : pw_C g p s m args meth c cc nL own) {x y : Int32} {z : Int} (hd : decode cc pc = .ok (.iushr, 1)) (hz : (x.toUInt32 >>> (y.toUInt32 &&& Int32.toUInt32 31)).toInt32 = iZ z)
    (k : pw_G g p l e R s m args below meth c nL Q cells slots (pc + 1) lv (.int (iZ z) :: st) w) : pw_G g p l e R s m args below meth c nL Q cells slots pc lv (.int y :: .int x :: st) w :=
  fun ls H locs hl hH hS => lv_iushr C.1 C.2.1 hd hz (k ls H locs hl hH hS)
theorem pw_lushr (C : pw_C g p s m args meth c cc nL own) {x : Int64} {y : Int32} {z : Int} (hd : decode cc pc = .ok (.lushr, 1)) (hz : (x.toUInt64 >>> (y.toInt64.toUInt64 &&& Int64.toUInt64 63)).toInt64 = lZ z)
    (k : pw_G g p l e R s m args below meth c nL Q cells slots (pc + 1) lv (.long (lZ z) :: st) w) : pw_G g p l e R s m args below meth c nL Q cells slots pc lv (.int y :: .long x :: st) w :=
  fun ls H locs hl hH hS => lv_lushr C.1 C.2.1 hd hz (k ls H locs hl hH hS)
theorem pw_lshr (C : pw_C g p s m args meth c cc nL own) {x : Int64} {y : Int32} {z : Int} (hd : decode cc pc = .ok (.lshr, 1)) (hz : x >>> (y.toInt64 &&& 63) = lZ z)
    (k : pw_G g p l e R s m args below meth c nL Q cells slots (pc + 1) lv (.long (lZ z) :: st) w) : pw_G g p l e R s m args below meth c nL Q cells slots pc lv (.int y :: .long x :: st) w :=
  fun ls H locs hl hH hS => lv_lshr C.1 C.2.1 hd hz (k ls H locs hl hH hS)
theorem pw_i2c (C : pw_C g p s m args meth c cc nL own) {x : Int32} {z : Int} (hd : decode cc pc = .ok (.i2c, 1)) (hz : (x.toUInt32 % 65536).toInt32 = iZ z)
    (k : pw_G g p l e R s m args below meth c nL Q cells slots (pc + 1) lv (.int (iZ z) :: st) w) : pw_G g p l e R s m args below meth c nL Q cells slots pc lv (.int x :: st) w :=
  fun ls H locs hl hH hS => lv_i2c C.1 C.2.1 hd hz (k ls H locs hl hH hS)
theorem pw_i2b (C : pw_C g p s m args meth c cc nL own) {x : Int32} {z : Int} (hd : decode cc pc = .ok (.i2b, 1)) (hz : x.toInt8.toInt32 = iZ z)
    (k : pw_G g p l e R s m args below meth c nL Q cells slots (pc + 1) lv (.int (iZ z) :: st) w) : pw_G g p l e R s m args below meth c nL Q cells slots pc lv (.int x :: st) w :=
  fun ls H locs hl hH hS => lv_i2b C.1 C.2.1 hd hz (k ls H locs hl hH hS)
theorem pw_i2l (C : pw_C g p s m args meth c cc nL own) {a : Int} (ha : inI a) (hd : decode cc pc = .ok (.i2l, 1))
    (k : pw_G g p l e R s m args below meth c nL Q cells slots (pc + 1) lv (.long (lZ a) :: st) w) : pw_G g p l e R s m args below meth c nL Q cells slots pc lv (.int (iZ a) :: st) w :=
  fun ls H locs hl hH hS => lv_i2l C.1 C.2.1 hd (iz_i2l ha) (k ls H locs hl hH hS)
theorem pw_l2i (C : pw_C g p s m args meth c cc nL own) {a : Int} (hd : decode cc pc = .ok (.l2i, 1))
    (k : pw_G g p l e R s m args below meth c nL Q cells slots (pc + 1) lv (.int (iZ a) :: st) w) : pw_G g p l e R s m args below meth c nL Q cells slots pc lv (.long (lZ a) :: st) w :=
  fun ls H locs hl hH hS => lv_l2i C.1 C.2.1 hd (iz_l2i a) (k ls H locs hl hH hS)
theorem pw_lcmp (C : pw_C g p s m args meth c cc nL own) {a b : Int} (ha : inL a) (hb : inL b) (hd : decode cc pc = .ok (.lcmp, 1))
    (k : pw_G g p l e R s m args below meth c nL Q cells slots (pc + 1) lv (.int (iZ (cmpZ a b)) :: st) w) : pw_G g p l e R s m args below meth c nL Q cells slots pc lv (.long (lZ b) :: .long (lZ a) :: st) w :=
  fun ls H locs hl hH hS => W.lcmp C.1 C.2.1 hd (by rw [cmpZ_of ha hb]; exact k ls H locs hl hH hS)
theorem pw_dup (C : pw_C g p s m args meth c cc nL own) {v : Value} (hd : decode cc pc = .ok (.dup, 1)) (hv : v.category = 1)
    (k : pw_G g p l e R s m args below meth c nL Q cells slots (pc + 1) lv (v :: v :: st) w) : pw_G g p l e R s m args below meth c nL Q cells slots pc lv (v :: st) w :=
  fun ls H locs hl hH hS => lv_dup C.1 C.2.1 hd hv (k ls H locs hl hH hS)
theorem pw_pop (C : pw_C g p s m args meth c cc nL own) {v : Value} (hd : decode cc pc = .ok (.pop, 1)) (hv : v.category = 1)
    (k : pw_G g p l e R s m args below meth c nL Q cells slots (pc + 1) lv st w) : pw_G g p l e R s m args below meth c nL Q cells slots pc lv (v :: st) w :=
  fun ls H locs hl hH hS => lv_pop C.1 C.2.1 hd hv (k ls H locs hl hH hS)
theorem pw_dup_x1 (C : pw_C g p s m args meth c cc nL own) {v u : Value} (hd : decode cc pc = .ok (.dup_x1, 1)) (hv : v.category = 1) (hu : u.category = 1)
    (k : pw_G g p l e R s m args below meth c nL Q cells slots (pc + 1) lv (v :: u :: v :: st) w) : pw_G g p l e R s m args below meth c nL Q cells slots pc lv (v :: u :: st) w :=
  fun ls H locs hl hH hS => lv_dup_x1 C.1 C.2.1 hd hv hu (k ls H locs hl hH hS)
theorem pw_null (C : pw_C g p s m args meth c cc nL own) (hd : decode cc pc = .ok (.aconst_null, 1))
    (k : pw_G g p l e R s m args below meth c nL Q cells slots (pc + 1) lv (.null :: st) w) : pw_G g p l e R s m args below meth c nL Q cells slots pc lv st w :=
  fun ls H locs hl hH hS => lv_null C.1 C.2.1 hd (k ls H locs hl hH hS)
theorem pw_goto (C : pw_C g p s m args meth c cc nL own) {off : Int} {tgt : Nat} (hd : decode cc pc = .ok (.goto off, 3)) (ht : (pc : Int) + off = (tgt : Int)) (k : pw_G g p l e R s m args below meth c nL Q cells slots tgt lv st w) : pw_G g p l e R s m args below meth c nL Q cells slots pc lv st w :=
  fun ls H locs hl hH hS => lv_goto C.1 C.2.1 hd ht (k ls H locs hl hH hS)
theorem pw_if_eq (C : pw_C g p s m args meth c cc nL own) {z : Int} {off : Int} {tgt : Nat} (hz : inI z) (hd : decode cc pc = .ok (.ifCond .eq off, 3)) (ht : (pc : Int) + off = (tgt : Int)) (kt : z = 0 → pw_G g p l e R s m args below meth c nL Q cells slots tgt lv st w) (kf : z ≠ 0 → pw_G g p l e R s m args below meth c nL Q cells slots (pc + 3) lv st w) : pw_G g p l e R s m args below meth c nL Q cells slots pc lv (.int (iZ z) :: st) w :=
  fun ls H locs hl hH hS => lv_if_eq C.1 C.2.1 hd ht (fun h => kt ((iz_eq hz ⟨by decide, by decide⟩).mp (h.trans iz_0.symm)) ls H locs hl hH hS) (fun h => kf (fun q => h ((congrArg iZ q).trans iz_0)) ls H locs hl hH hS)
theorem pw_if_ne (C : pw_C g p s m args meth c cc nL own) {z : Int} {off : Int} {tgt : Nat} (hz : inI z) (hd : decode cc pc = .ok (.ifCond .ne off, 3)) (ht : (pc : Int) + off = (tgt : Int)) (kt : z ≠ 0 → pw_G g p l e R s m args below meth c nL Q cells slots tgt lv st w) (kf : z = 0 → pw_G g p l e R s m args below meth c nL Q cells slots (pc + 3) lv st w) : pw_G g p l e R s m args below meth c nL Q cells slots pc lv (.int (iZ z) :: st) w :=
  fun ls H locs hl hH hS => lv_if_ne C.1 C.2.1 hd ht (fun h => kt (fun q => h ((congrArg iZ q).trans iz_0)) ls H locs hl hH hS) (fun h => kf ((iz_eq hz ⟨by decide, by decide⟩).mp (h.trans iz_0.symm)) ls H locs hl hH hS)
theorem pw_if_lt (C : pw_C g p s m args meth c cc nL own) {z : Int} {off : Int} {tgt : Nat} (hz : inI z) (hd : decode cc pc = .ok (.ifCond .lt off, 3)) (ht : (pc : Int) + off = (tgt : Int)) (kt : z < 0 → pw_G g p l e R s m args below meth c nL Q cells slots tgt lv st w) (kf : 0 ≤ z → pw_G g p l e R s m args below meth c nL Q cells slots (pc + 3) lv st w) : pw_G g p l e R s m args below meth c nL Q cells slots pc lv (.int (iZ z) :: st) w :=
  fun ls H locs hl hH hS => lv_if_lt C.1 C.2.1 hd ht (fun h => kt ((iz_lt hz ⟨by decide, by decide⟩).mp (by rw [iz_0]; exact h)) ls H locs hl hH hS) (fun h => kf (Int.not_lt.mp (fun q => h (by rw [← iz_0]; exact (iz_lt hz ⟨by decide, by decide⟩).mpr q))) ls H locs hl hH hS)
theorem pw_if_ge (C : pw_C g p s m args meth c cc nL own) {z : Int} {off : Int} {tgt : Nat} (hz : inI z) (hd : decode cc pc = .ok (.ifCond .ge off, 3)) (ht : (pc : Int) + off = (tgt : Int)) (kt : 0 ≤ z → pw_G g p l e R s m args below meth c nL Q cells slots tgt lv st w) (kf : z < 0 → pw_G g p l e R s m args below meth c nL Q cells slots (pc + 3) lv st w) : pw_G g p l e R s m args below meth c nL Q cells slots pc lv (.int (iZ z) :: st) w :=
  fun ls H locs hl hH hS => lv_if_ge C.1 C.2.1 hd ht (fun h => kt ((iz_le ⟨by decide, by decide⟩ hz).mp (by rw [iz_0]; exact h)) ls H locs hl hH hS) (fun h => kf (Int.not_le.mp (fun q => h (by rw [← iz_0]; exact (iz_le ⟨by decide, by decide⟩ hz).mpr q))) ls H locs hl hH hS)
theorem pw_if_gt (C : pw_C g p s m args meth c cc nL own) {z : Int} {off : Int} {tgt : Nat} (hz : inI z) (hd : decode cc pc = .ok (.ifCond .gt off, 3)) (ht : (pc : Int) + off = (tgt : Int)) (kt : 0 < z → pw_G g p l e R s m args below meth c nL Q cells slots tgt lv st w) (kf : z ≤ 0 → pw_G g p l e R s m args below meth c nL Q cells slots (pc + 3) lv st w) : pw_G g p l e R s m args below meth c nL Q cells slots pc lv (.int (iZ z) :: st) w :=
  fun ls H locs hl hH hS => lv_if_gt C.1 C.2.1 hd ht (fun h => kt ((iz_lt ⟨by decide, by decide⟩ hz).mp (by rw [iz_0]; exact h)) ls H locs hl hH hS) (fun h => kf (Int.not_lt.mp (fun q => h (by rw [← iz_0]; exact (iz_lt ⟨by decide, by decide⟩ hz).mpr q))) ls H locs hl hH hS)
theorem pw_if_le (C : pw_C g p s m args meth c cc nL own) {z : Int} {off : Int} {tgt : Nat} (hz : inI z) (hd : decode cc pc = .ok (.ifCond .le off, 3)) (ht : (pc : Int) + off = (tgt : Int)) (kt : z ≤ 0 → pw_G g p l e R s m args below meth c nL Q cells slots tgt lv st w) (kf : 0 < z → pw_G g p l e R s m args below meth c nL Q cells slots (pc + 3) lv st w) : pw_G g p l e R s m args below meth c nL Q cells slots pc lv (.int (iZ z) :: st) w :=
  fun ls H locs hl hH hS => lv_if_le C.1 C.2.1 hd ht (fun h => kt ((iz_le hz ⟨by decide, by decide⟩).mp (by rw [iz_0]; exact h)) ls H locs hl hH hS) (fun h => kf (Int.not_le.mp (fun q => h (by rw [← iz_0]; exact (iz_le hz ⟨by decide, by decide⟩).mpr q))) ls H locs hl hH hS)
theorem pw_icmp_eq (C : pw_C g p s m args meth c cc nL own) {a b : Int} {off : Int} {tgt : Nat} (ha : inI a) (hb : inI b) (hd : decode cc pc = .ok (.if_icmp .eq off, 3)) (ht : (pc : Int) + off = (tgt : Int)) (kt : a = b → pw_G g p l e R s m args below meth c nL Q cells slots tgt lv st w) (kf : a ≠ b → pw_G g p l e R s m args below meth c nL Q cells slots (pc + 3) lv st w) : pw_G g p l e R s m args below meth c nL Q cells slots pc lv (.int (iZ b) :: .int (iZ a) :: st) w :=
  fun ls H locs hl hH hS => lv_icmp_eq C.1 C.2.1 hd ht (fun h => kt ((iz_eq ha hb).mp h) ls H locs hl hH hS) (fun h => kf (fun q => h ((iz_eq ha hb).mpr q)) ls H locs hl hH hS)
theorem pw_icmp_ne (C : pw_C g p s m args meth c cc nL own) {a b : Int} {off : Int} {tgt : Nat} (ha : inI a) (hb : inI b) (hd : decode cc pc = .ok (.if_icmp .ne off, 3)) (ht : (pc : Int) + off = (tgt : Int)) (kt : a ≠ b → pw_G g p l e R s m args below meth c nL Q cells slots tgt lv st w) (kf : a = b → pw_G g p l e R s m args below meth c nL Q cells slots (pc + 3) lv st w) : pw_G g p l e R s m args below meth c nL Q cells slots pc lv (.int (iZ b) :: .int (iZ a) :: st) w :=
  fun ls H locs hl hH hS => lv_icmp_ne C.1 C.2.1 hd ht (fun h => kt (fun q => h ((iz_eq ha hb).mpr q)) ls H locs hl hH hS) (fun h => kf ((iz_eq ha hb).mp h) ls H locs hl hH hS)
theorem pw_icmp_lt (C : pw_C g p s m args meth c cc nL own) {a b : Int} {off : Int} {tgt : Nat} (ha : inI a) (hb : inI b) (hd : decode cc pc = .ok (.if_icmp .lt off, 3)) (ht : (pc : Int) + off = (tgt : Int)) (kt : a < b → pw_G g p l e R s m args below meth c nL Q cells slots tgt lv st w) (kf : b ≤ a → pw_G g p l e R s m args below meth c nL Q cells slots (pc + 3) lv st w) : pw_G g p l e R s m args below meth c nL Q cells slots pc lv (.int (iZ b) :: .int (iZ a) :: st) w :=
  fun ls H locs hl hH hS => lv_icmp_lt C.1 C.2.1 hd ht (fun h => kt ((iz_lt ha hb).mp h) ls H locs hl hH hS) (fun h => kf (Int.not_lt.mp (fun q => h ((iz_lt ha hb).mpr q))) ls H locs hl hH hS)
theorem pw_icmp_ge (C : pw_C g p s m args meth c cc nL own) {a b : Int} {off : Int} {tgt : Nat} (ha : inI a) (hb : inI b) (hd : decode cc pc = .ok (.if_icmp .ge off, 3)) (ht : (pc : Int) + off = (tgt : Int)) (kt : b ≤ a → pw_G g p l e R s m args below meth c nL Q cells slots tgt lv st w) (kf : a < b → pw_G g p l e R s m args below meth c nL Q cells slots (pc + 3) lv st w) : pw_G g p l e R s m args below meth c nL Q cells slots pc lv (.int (iZ b) :: .int (iZ a) :: st) w :=
  fun ls H locs hl hH hS => lv_icmp_ge C.1 C.2.1 hd ht (fun h => kt ((iz_le hb ha).mp h) ls H locs hl hH hS) (fun h => kf (Int.not_le.mp (fun q => h ((iz_le hb ha).mpr q))) ls H locs hl hH hS)
theorem pw_icmp_gt (C : pw_C g p s m args meth c cc nL own) {a b : Int} {off : Int} {tgt : Nat} (ha : inI a) (hb : inI b) (hd : decode cc pc = .ok (.if_icmp .gt off, 3)) (ht : (pc : Int) + off = (tgt : Int)) (kt : b < a → pw_G g p l e R s m args below meth c nL Q cells slots tgt lv st w) (kf : a ≤ b → pw_G g p l e R s m args below meth c nL Q cells slots (pc + 3) lv st w) : pw_G g p l e R s m args below meth c nL Q cells slots pc lv (.int (iZ b) :: .int (iZ a) :: st) w :=
  fun ls H locs hl hH hS => lv_icmp_gt C.1 C.2.1 hd ht (fun h => kt ((iz_lt hb ha).mp h) ls H locs hl hH hS) (fun h => kf (Int.not_lt.mp (fun q => h ((iz_lt hb ha).mpr q))) ls H locs hl hH hS)
theorem pw_icmp_le (C : pw_C g p s m args meth c cc nL own) {a b : Int} {off : Int} {tgt : Nat} (ha : inI a) (hb : inI b) (hd : decode cc pc = .ok (.if_icmp .le off, 3)) (ht : (pc : Int) + off = (tgt : Int)) (kt : a ≤ b → pw_G g p l e R s m args below meth c nL Q cells slots tgt lv st w) (kf : b < a → pw_G g p l e R s m args below meth c nL Q cells slots (pc + 3) lv st w) : pw_G g p l e R s m args below meth c nL Q cells slots pc lv (.int (iZ b) :: .int (iZ a) :: st) w :=
  fun ls H locs hl hH hS => lv_icmp_le C.1 C.2.1 hd ht (fun h => kt ((iz_le ha hb).mp h) ls H locs hl hH hS) (fun h => kf (Int.not_le.mp (fun q => h ((iz_le ha hb).mpr q))) ls H locs hl hH hS)
theorem pw_if_eqB (C : pw_C g p s m args meth c cc nL own) {b : Bool} {off : Int} {tgt : Nat} (hd : decode cc pc = .ok (.ifCond .eq off, 3)) (ht : (pc : Int) + off = (tgt : Int)) (kt : b = false → pw_G g p l e R s m args below meth c nL Q cells slots tgt lv st w) (kf : b = true → pw_G g p l e R s m args below meth c nL Q cells slots (pc + 3) lv st w) : pw_G g p l e R s m args below meth c nL Q cells slots pc lv (.int (iZ (b2i b)) :: st) w :=
  pw_if_eq C (b2i_in b) hd ht (fun h => kt (by cases b <;> simp_all [b2i])) (fun h => kf (by cases b <;> simp_all [b2i]))
theorem pw_if_neB (C : pw_C g p s m args meth c cc nL own) {b : Bool} {off : Int} {tgt : Nat} (hd : decode cc pc = .ok (.ifCond .ne off, 3)) (ht : (pc : Int) + off = (tgt : Int)) (kt : b = true → pw_G g p l e R s m args below meth c nL Q cells slots tgt lv st w) (kf : b = false → pw_G g p l e R s m args below meth c nL Q cells slots (pc + 3) lv st w) : pw_G g p l e R s m args below meth c nL Q cells slots pc lv (.int (iZ (b2i b)) :: st) w :=
  pw_if_ne C (b2i_in b) hd ht (fun h => kt (by cases b <;> simp_all [b2i])) (fun h => kf (by cases b <;> simp_all [b2i]))
theorem pw_ifnull (C : pw_C g p s m args meth c cc nL own) {v : Option Nat} {off : Int} {tgt : Nat} (hd : decode cc pc = .ok (.ifnull off, 3)) (ht : (pc : Int) + off = (tgt : Int)) (kt : v = none → pw_G g p l e R s m args below meth c nL Q cells slots tgt lv st w) (kf : ∀ a, v = some a → pw_G g p l e R s m args below meth c nL Q cells slots (pc + 3) lv st w) : pw_G g p l e R s m args below meth c nL Q cells slots pc lv (va_rf v :: st) w := by
  intro ls H locs hl hH hS
  cases v with
  | none => exact lv_ifnullN C.1 C.2.1 hd ht (kt rfl ls H locs hl hH hS)
  | some a => exact lv_ifnull C.1 C.2.1 hd (kf a rfl ls H locs hl hH hS)
theorem pw_ifnonnull (C : pw_C g p s m args meth c cc nL own) {v : Option Nat} {off : Int} {tgt : Nat} (hd : decode cc pc = .ok (.ifnonnull off, 3)) (ht : (pc : Int) + off = (tgt : Int)) (kt : ∀ a, v = some a → pw_G g p l e R s m args below meth c nL Q cells slots tgt lv st w) (kf : v = none → pw_G g p l e R s m args below meth c nL Q cells slots (pc + 3) lv st w) : pw_G g p l e R s m args below meth c nL Q cells slots pc lv (va_rf v :: st) w := by
  intro ls H locs hl hH hS
  cases v with
  | none => exact lv_ifnonnullN C.1 C.2.1 hd (kf rfl ls H locs hl hH hS)
  | some a => exact lv_ifnonnull C.1 C.2.1 hd ht (kt a rfl ls H locs hl hH hS)
/-- fewer locals, more room, another stack or world that is the same -/
theorem pw_sub {lv' : List (Nat × Value)} (ks : List Nat) (h : lv_pick lv ks = lv') (k : pw_G g p l e R s m args below meth c nL Q cells slots pc lv' st w) : pw_G g p l e R s m args below meth c nL Q cells slots pc lv st w :=
  fun ls H locs hl hH hS => k ls H locs (lv_sub hl ks h) hH hS
theorem pw_wide (cells' slots' : Nat) (h1 : cells ≤ cells') (h2 : slots ≤ slots') (k : pw_G g p l e R s m args below meth c nL Q cells' slots' pc lv st w) : pw_G g p l e R s m args below meth c nL Q cells slots pc lv st w :=
  fun ls H locs hl hH hS => W.widen h1 h2 (k ls H locs hl hH hS)
/-! RETURNS -/
theorem pw_post {post : Option Value → pw_W → Prop} {r : Option Value} {H : Heap} {locs : List Loc} (hp : post r w) (hH : pw_H g w H) (hS : va_S (pw_A g) s.heap H locs) (t : State) (ht : t.heap = H) : pw_Qc g post args s (.returned r) t :=
  ⟨⟨r, w, rfl, hp, by rw [ht]; exact hH⟩, hS.F ht⟩
theorem pw_iret (C : pw_C g p s m args meth c cc nL own) {post : Option Value → pw_W → Prop} {x : Int32} (hr : meth.sig.returnType = some .int) (hd : decode cc pc = .ok (.ireturn, 1)) (hp : post (some (.int x)) w) : pw_G g p l e R s m args below meth c nL (MQ below (pw_Qc g post) args s cells slots (pw_A g)) cells slots pc lv [.int x] w :=
  fun ls H locs hl hH hS => W.iret (v := x) C.1 C.2.1 hr (fun t ht hW => pw_post hp hH hS t ht) hS.2.2 hd (hlocks := C.2.2.2.2.2.1)
theorem pw_zret (C : pw_C g p s m args meth c cc nL own) {post : Option Value → pw_W → Prop} {x : Int32} {ty : FieldType} (hr : meth.sig.returnType = some ty) (hn : narrow ty (.int x) = .int x) (hd : decode cc pc = .ok (.ireturn, 1)) (hp : post (some (.int x)) w) : pw_G g p l e R s m args below meth c nL (MQ below (pw_Qc g post) args s cells slots (pw_A g)) cells slots pc lv [.int x] w :=
  fun ls H locs hl hH hS => W.zret (v := x) C.1 C.2.1 hr hn (fun t ht hW => pw_post hp hH hS t ht) hS.2.2 hd (hlocks := C.2.2.2.2.2.1)
theorem pw_lret (C : pw_C g p s m args meth c cc nL own) {post : Option Value → pw_W → Prop} {x : Int64} (hr : meth.sig.returnType = some .long) (hd : decode cc pc = .ok (.lreturn, 1)) (hp : post (some (.long x)) w) : pw_G g p l e R s m args below meth c nL (MQ below (pw_Qc g post) args s cells slots (pw_A g)) cells slots pc lv [.long x] w :=
  fun ls H locs hl hH hS => W.lret (v := x) C.1 C.2.1 hr (fun t ht hW => pw_post hp hH hS t ht) hS.2.2 hd (hlocks := C.2.2.2.2.2.1)
theorem pw_vret (C : pw_C g p s m args meth c cc nL own) {post : Option Value → pw_W → Prop} (hr : meth.sig.returnType = none) (hd : decode cc pc = .ok (.return_, 1)) (hp : post none w) : pw_G g p l e R s m args below meth c nL (MQ below (pw_Qc g post) args s cells slots (pw_A g)) cells slots pc lv [] w :=
  fun ls H locs hl hH hS => W.vret C.1 C.2.1 hr (fun t ht hW => pw_post hp hH hS t ht) hS.2.2 hd (hlocks := C.2.2.2.2.2.1)
theorem pw_aret (C : pw_C g p s m args meth c cc nL own) {post : Option Value → pw_W → Prop} {v : Value} {rt : FieldType} (hr : meth.sig.returnType = some rt) (hrt : (∃ n, rt = .object n) ∨ ∃ t, rt = .array t) (hv : v = .null ∨ ∃ a, v = .ref a) (hd : decode cc pc = .ok (.areturn, 1)) (hp : post (some v) w) : pw_G g p l e R s m args below meth c nL (MQ below (pw_Qc g post) args s cells slots (pw_A g)) cells slots pc lv [v] w :=
  fun ls H locs hl hH hS => W.aret (v := v) C.1 C.2.1 hr hrt hv (fun t ht hW => pw_post hp hH hS t ht) hS.2.2 hd (hlocks := C.2.2.2.2.2.1)
end
end
section
/-! CLASSES and their fields -/
def pw_CL (ci : Nat) (q : vw_C) (ty0 : Nat → FieldType) : Prop := vwCl[ci]? = some q ∧ (∀ w ∈ u_ws q.1 q.2.1 q.2.2, w ∈ pw_T) ∧ (∀ k, k < q.2.2 → parseFieldDescriptor (q.2.1 k).2.2.1 = some (ty0 k)) ∧ ∀ a, a < q.2.2 → ∀ b, b < q.2.2 → a ≠ b → (q.2.1 a).2.1 ≠ (q.2.1 b).2.1
theorem pw_ws {C : String} {T : u_T} {N : Nat} (h : (u_ws C T N).all (fun w => decide (w ∈ lw_tbl) && goodWord w) = true) : ∀ w ∈ u_ws C T N, w ∈ pw_T := by
  intro w hw
  have h1 := List.all_eq_true.mp h w hw
  simp only [Bool.and_eq_true, decide_eq_true_eq] at h1
  exact pw_in h1.1 h1.2
theorem at_AI (g : pw_P) (a n : Nat) (f : Nat → Int) (H : Heap) : va_at g.1 vwCl (a, AI g n f) H = (H[a]? = some (arrV (g.2.1 0) n (fun j => .int (iZ (f j))))) := rfl
theorem at_AJ (g : pw_P) (a n : Nat) (f : Nat → Int) (H : Heap) : va_at g.1 vwCl (a, AJ g n f) H = (H[a]? = some (arrV (g.2.1 1) n (fun j => .long (lZ (f j))))) := rfl
theorem at_AC (g : pw_P) (a n : Nat) (f : Nat → Int) (H : Heap) : va_at g.1 vwCl (a, AC g n f) H = (H[a]? = some (arrV (g.2.1 2) n (fun j => .int (iZ (f j))))) := rfl
theorem at_AZ (g : pw_P) (a n : Nat) (f : Nat → Int) (H : Heap) : va_at g.1 vwCl (a, AZ g n f) H = (H[a]? = some (arrV (g.2.1 3) n (fun j => .int (iZ (f j))))) := rfl
theorem at_AR (g : pw_P) (a t n : Nat) (f : Nat → Option Nat) (H : Heap) : va_at g.1 vwCl (a, AR g t n f) H = (H[a]? = some (arrV (g.2.1 t) n (fun j => va_rf (f j)))) := rfl
section
variable {g : pw_P} {p : Program} {l : Launch} {e : Env} {R : Room} {s : State} {m : MethodId} {args : Array Value} {below : List Frame} {meth : Method} {c : Code} {cc : ByteArray} {nL : Nat} {own : String} {Q : State → Prop} {cells slots pc : Nat} {lv : List (Nat × Value)} {st : List Value} {w : pw_W}
variable {k a ci j idx : Nat} {q : vw_C} {ty0 : Nat → FieldType} {fs : List Value} {v : Value} {ty : FieldType} {host : String}
theorem pw_get (C : pw_C g p s m args meth c cc nL own) (hcl : pw_CL ci q ty0) (hlink : Cond.fieldLink own idx q.1 (q.2.1 j).2.1 (q.2.1 j).2.2.1 ∈ pw_T) (hj : j < q.2.2) (hdecl : (q.2.1 j).1 = q.1) (hk : w k = (a, some (OB ci fs))) (hv : fs[j]? = some v) (hd : decode cc pc = .ok (.getfield idx, 3))
    (kk : pw_G g p l e R s m args below meth c nL Q cells slots (pc + 3) lv (v :: st) w) : pw_G g p l e R s m args below meth c nL Q cells slots pc lv (.ref a :: st) w := by
  intro ls H locs hl hH hS
  exact va_get (D := g.1) (cl := vwCl) (C := q.1) (T := q.2.1) (N := q.2.2) C.1 C.2.1 C.2.2.2.2.1 hcl.2.1 C.2.2.2.1 C.2.2.2.2.2.2.2.1 (hH.one hk) 0 rfl hcl.1 j hj (C.2.2.2.2.1 _ hlink) (fun x hx => by rw [← hdecl]; exact hx) hv hd (kk ls H locs hl hH hS)
theorem pw_getN (C : pw_C g p s m args meth c cc nL own) (hcl : pw_CL ci q ty0) (hlink : Cond.fieldLinkNest own idx q.1 (q.2.1 j).2.1 (q.2.1 j).2.2.1 host ∈ pw_N) (hj : j < q.2.2) (hdecl : (q.2.1 j).1 = q.1) (hk : w k = (a, some (OB ci fs))) (hv : fs[j]? = some v) (hd : decode cc pc = .ok (.getfield idx, 3))
    (kk : pw_G g p l e R s m args below meth c nL Q cells slots (pc + 3) lv (v :: st) w) : pw_G g p l e R s m args below meth c nL Q cells slots pc lv (.ref a :: st) w := by
  intro ls H locs hl hH hS
  exact va_getN (D := g.1) (cl := vwCl) (C := q.1) (T := q.2.1) (N := q.2.2) C.1 C.2.1 C.2.2.2.2.1 hcl.2.1 C.2.2.2.1 C.2.2.2.2.2.2.2.1 (hH.one hk) 0 rfl hcl.1 j hj (va_Nw.use rfl (C.2.2.2.2.2.2.2.2.1 _ hlink)) (fun x hx => by rw [← hdecl]; exact hx) hv hd (kk ls H locs hl hH hS)
/-- what a put needs of the tables, once for the three rows below -/
theorem pw_putV (C : pw_C g p s m args meth c cc nL own) (hcl : pw_CL ci q ty0) (hj : j < q.2.2) {H H1 : Heap} {locs : List Loc} (hH : pw_H g w H) (hk : w k = (a, some (OB ci fs))) (hl : j < fs.length) {f : Field} {cf fi : Nat} {kf : Class} (hi : s.fieldFound? (q.2.1 j).1 (q.2.1 j).2.1 (q.2.1 j).2.2.1 = some (cf, kf, fi, f)) {cell : Cell} (hcell : H[a]? = some cell) (e1 : H1[a]? = some (cell.setSlot f.slot v)) (e3 : ∀ x, x ≠ a → H1[x]? = H[x]?) : pw_H g (va_up w k (a, some (OB ci (fs.set j v)))) H1 := by
  refine hH.put hk ?_ e3
  have hap := va_apart (own := own) C.2.2.2.2.1 hcl.2.1 ty0 hcl.2.2.1 hcl.2.2.2 C.2.2.2.2.2.2.2.1 hcl.1
  obtain ⟨r, h1, cell', q1, q2, q3, q4⟩ := (hH.1 k a _ hk).1
  have hr : r = q := Option.some.inj (h1.symm.trans hcl.1)
  subst hr
  cases hcell.symm.trans q1
  obtain ⟨hS, -⟩ := C.2.2.2.2.2.2.2.1.1 ci _ hcl.1
  obtain ⟨cf', kf', fi', f', hi', hsl⟩ := hS j hj
  cases hi.symm.trans hi'
  rw [hsl] at e1
  exact ⟨_, hcl.1, t_OB.to (V := updV (vp_V fs) j v) ⟨_, e1, q2, q3, t_set q4 hap hj v⟩ (fun i _ => vp_updV_set hl v i)⟩
theorem pw_put (C : pw_C g p s m args meth c cc nL own) (hcl : pw_CL ci q ty0) (hlink : Cond.fieldLink own idx q.1 (q.2.1 j).2.1 (q.2.1 j).2.2.1 ∈ pw_T) (hj : j < q.2.2) (hdecl : (q.2.1 j).1 = q.1) (hfin : (q.2.1 j).2.2.2 = false) (hty : ty0 j = ty) (hn : narrow ty v = v) (hfit : fits ty v = true) (hk : w k = (a, some (OB ci fs))) (hl : j < fs.length) (hd : decode cc pc = .ok (.putfield idx, 3))
    (kk : ∀ w' : pw_W, w' k = (a, some (OB ci (fs.set j v))) → (∀ i, i ≠ k → w' i = w i) → pw_G g p l e R s m args below meth c nL Q cells slots (pc + 3) lv st w') : pw_G g p l e R s m args below meth c nL Q cells slots pc lv (v :: .ref a :: st) w := by
  intro ls H locs hl2 hH hS
  obtain ⟨r, h1, cell, q1, q2, q3, q4⟩ := (hH.1 k a _ hk).1
  have hr : r = q := Option.some.inj (h1.symm.trans hcl.1)
  subst hr
  obtain ⟨hSl, hfc, kC, hkC, hkind⟩ := C.2.2.2.2.2.2.2.1.1 ci _ hcl.1
  obtain ⟨cf, kf, fi, f, hi, hsl⟩ := hSl j hj
  have hlay := C.2.2.2.2.1 _ (hcl.2.1 _ (u_in_lay hj))
  unfold u_lay at hlay
  rw [if_neg (by rw [hfin]; decide)] at hlay
  have hst := (u_facts hfc hkC (u_lays C.2.2.2.2.1 hcl.2.1 hj) hi).1
  have h6 := u_store hfc hkC hkind hlay hi (hcl.2.2.1 j hj) (by rw [hty]; exact hn) (by rw [hty]; exact hfit)
  refine W.putK C.1 C.2.1 (f := f) ⟨C.2.2.2.1, C.2.2.2.2.1 _ hlink, ⟨_, _, _, by rw [← hdecl]; exact hi⟩, hst⟩ (by rw [q2]; exact h6) q1 q3 (by rw [hsl]; exact k2_hasslot (q4 j hj)) rfl rfl hd fun H' e1 e2 e3 => ?_
  exact kk _ (va_up_self _ _ _) (fun i hi => va_up_ne _ _ hi) ls H' _ hl2 (pw_putV (locs := locs) C hcl hj hH hk hl hi q1 e1 e3) (hS.put e2 e3 (hH.1 k a _ hk).2)
theorem pw_putN (C : pw_C g p s m args meth c cc nL own) (hcl : pw_CL ci q ty0) (hlink : Cond.fieldLinkNest own idx q.1 (q.2.1 j).2.1 (q.2.1 j).2.2.1 host ∈ pw_N) (hj : j < q.2.2) (hdecl : (q.2.1 j).1 = q.1) (hfin : (q.2.1 j).2.2.2 = false) (hty : ty0 j = ty) (hn : narrow ty v = v) (hfit : fits ty v = true) (hk : w k = (a, some (OB ci fs))) (hl : j < fs.length) (hd : decode cc pc = .ok (.putfield idx, 3))
    (kk : ∀ w' : pw_W, w' k = (a, some (OB ci (fs.set j v))) → (∀ i, i ≠ k → w' i = w i) → pw_G g p l e R s m args below meth c nL Q cells slots (pc + 3) lv st w') : pw_G g p l e R s m args below meth c nL Q cells slots pc lv (v :: .ref a :: st) w := by
  intro ls H locs hl2 hH hS
  obtain ⟨r, h1, cell, q1, q2, q3, q4⟩ := (hH.1 k a _ hk).1
  have hr : r = q := Option.some.inj (h1.symm.trans hcl.1)
  subst hr
  obtain ⟨hSl, hfc, kC, hkC, hkind⟩ := C.2.2.2.2.2.2.2.1.1 ci _ hcl.1
  obtain ⟨cf, kf, fi, f, hi, hsl⟩ := hSl j hj
  have hlay := C.2.2.2.2.1 _ (hcl.2.1 _ (u_in_lay hj))
  unfold u_lay at hlay
  rw [if_neg (by rw [hfin]; decide)] at hlay
  have hst := (u_facts hfc hkC (u_lays C.2.2.2.2.1 hcl.2.1 hj) hi).1
  have h6 := u_store hfc hkC hkind hlay hi (hcl.2.2.1 j hj) (by rw [hty]; exact hn) (by rw [hty]; exact hfit)
  refine va_WputK C.1 C.2.1 (f := f) C.2.2.2.1 (va_Nw.use rfl (C.2.2.2.2.2.2.2.2.1 _ hlink)) (by rw [← hdecl]; exact hi) hst (by rw [q2]; exact h6) q1 q3 (by rw [hsl]; exact k2_hasslot (q4 j hj)) rfl rfl hd fun H' e1 e2 e3 => ?_
  exact kk _ (va_up_self _ _ _) (fun i hi => va_up_ne _ _ hi) ls H' _ hl2 (pw_putV (locs := locs) C hcl hj hH hk hl hi q1 e1 e3) (hS.put e2 e3 (hH.1 k a _ hk).2)
/-- a final field, in a constructor -/
theorem pw_putF (C : pw_C g p s m args meth c cc nL own) (hname : meth.name = "<init>") (hcl : pw_CL ci q ty0) (hlink : Cond.fieldLink own idx q.1 (q.2.1 j).2.1 (q.2.1 j).2.2.1 ∈ pw_T) (hj : j < q.2.2) (hdecl : (q.2.1 j).1 = q.1) (hown : q.1 = own) (hfin : (q.2.1 j).2.2.2 = true) (hty : ty0 j = ty) (hn : narrow ty v = v) (hfit : fits ty v = true) (hk : w k = (a, some (OB ci fs))) (hl : j < fs.length) (hd : decode cc pc = .ok (.putfield idx, 3))
    (kk : ∀ w' : pw_W, w' k = (a, some (OB ci (fs.set j v))) → (∀ i, i ≠ k → w' i = w i) → pw_G g p l e R s m args below meth c nL Q cells slots (pc + 3) lv st w') : pw_G g p l e R s m args below meth c nL Q cells slots pc lv (v :: .ref a :: st) w := by
  intro ls H locs hl2 hH hS
  obtain ⟨r, h1, cell, q1, q2, q3, q4⟩ := (hH.1 k a _ hk).1
  have hr : r = q := Option.some.inj (h1.symm.trans hcl.1)
  subst hr
  obtain ⟨hSl, hfc, kC, hkC, hkind⟩ := C.2.2.2.2.2.2.2.1.1 ci _ hcl.1
  obtain ⟨cf, kf, fi, f, hi, hsl⟩ := hSl j hj
  have hlay := C.2.2.2.2.1 _ (hcl.2.1 _ (u_in_lay hj))
  unfold u_lay at hlay
  rw [if_pos hfin] at hlay
  have hst := (u_facts hfc hkC (u_lays C.2.2.2.2.1 hcl.2.1 hj) hi).1
  have hcf : m.cls = cf := by
    obtain ⟨_, _, c', _, _, _, -, -, hf', -, -, -, hown2, -⟩ := Cond.laysFinal_spec hlay
    have e1 : c' = cf := by have := hi.symm.trans hf'; simp at this; exact this.1.symm
    rw [hdecl, hown] at hown2
    rw [← e1]; exact Option.some.inj (C.2.2.2.1.symm.trans hown2)
  have h6 := u_fits hfc hkC hkind (Or.inr hlay) hi (hcl.2.2.1 j hj) (by rw [hty]; exact hn) (by rw [hty]; exact hfit)
  refine W.putFinK C.1 C.2.1 C.2.2.2.1 (C.2.2.2.2.1 _ hlink) (by rw [← hdecl]; exact hi) hst hcf hname (by rw [q2]; exact h6) q1 q3 (by rw [hsl]; exact k2_hasslot (q4 j hj)) rfl rfl hd fun H' e1 e2 e3 => ?_
  exact kk _ (va_up_self _ _ _) (fun i hi => va_up_ne _ _ hi) ls H' _ hl2 (pw_putV (locs := locs) C hcl hj hH hk hl hi q1 e1 e3) (hS.put e2 e3 (hH.1 k a _ hk).2)
/-! ARRAYS -/
variable {n : Nat} {f : Nat → Int} {i x : Int}
theorem pw_iald (C : pw_C g p s m args meth c cc nL own) (hk : w k = (a, some (AI g n f))) (h : 0 ≤ i ∧ i < n ∧ i < 2147483648) (hd : decode cc pc = .ok (.iaload, 1))
    (kk : pw_G g p l e R s m args below meth c nL Q cells slots (pc + 1) lv (.int (iZ (f i.toNat)) :: st) w) : pw_G g p l e R s m args below meth c nL Q cells slots pc lv (.int (iZ i) :: .ref a :: st) w := by
  intro ls H locs hl hH hS
  refine va_iald (t0 := 0) C.1 C.2.1 C.2.2.2.2.2.2.2.1 (hH.one hk) 0 rfl rfl (iz_in h.1 h.2.1 h.2.2) hd ?_
  rw [iz_clamp ⟨by omega, h.2.2⟩]
  exact kk ls H locs hl hH hS
theorem pw_lald (C : pw_C g p s m args meth c cc nL own) (hk : w k = (a, some (AJ g n f))) (h : 0 ≤ i ∧ i < n ∧ i < 2147483648) (hd : decode cc pc = .ok (.laload, 1))
    (kk : pw_G g p l e R s m args below meth c nL Q cells slots (pc + 1) lv (.long (lZ (f i.toNat)) :: st) w) : pw_G g p l e R s m args below meth c nL Q cells slots pc lv (.int (iZ i) :: .ref a :: st) w := by
  intro ls H locs hl hH hS
  refine va_lald (t0 := 1) C.1 C.2.1 C.2.2.2.2.2.2.2.1 (hH.one hk) 0 rfl rfl (iz_in h.1 h.2.1 h.2.2) hd ?_
  rw [iz_clamp ⟨by omega, h.2.2⟩]
  exact kk ls H locs hl hH hS
theorem pw_cald (C : pw_C g p s m args meth c cc nL own) (hk : w k = (a, some (AC g n f))) (h : 0 ≤ i ∧ i < n ∧ i < 2147483648) (hd : decode cc pc = .ok (.caload, 1))
    (kk : pw_G g p l e R s m args below meth c nL Q cells slots (pc + 1) lv (.int (iZ (f i.toNat)) :: st) w) : pw_G g p l e R s m args below meth c nL Q cells slots pc lv (.int (iZ i) :: .ref a :: st) w := by
  intro ls H locs hl hH hS
  refine va_cald (t0 := 2) C.1 C.2.1 C.2.2.2.2.2.2.2.1 (hH.one hk) 0 rfl rfl (iz_in h.1 h.2.1 h.2.2) hd ?_
  rw [iz_clamp ⟨by omega, h.2.2⟩]
  exact kk ls H locs hl hH hS
theorem pw_zald (C : pw_C g p s m args meth c cc nL own) (hk : w k = (a, some (AZ g n f))) (h : 0 ≤ i ∧ i < n ∧ i < 2147483648) (hd : decode cc pc = .ok (.baload, 1))
    (kk : pw_G g p l e R s m args below meth c nL Q cells slots (pc + 1) lv (.int (iZ (f i.toNat)) :: st) w) : pw_G g p l e R s m args below meth c nL Q cells slots pc lv (.int (iZ i) :: .ref a :: st) w := by
  intro ls H locs hl hH hS
  refine va_zald (t0 := 3) C.1 C.2.1 C.2.2.2.2.2.2.2.1 (hH.one hk) 0 rfl rfl (iz_in h.1 h.2.1 h.2.2) hd ?_
  rw [iz_clamp ⟨by omega, h.2.2⟩]
  exact kk ls H locs hl hH hS
theorem pw_aald (C : pw_C g p s m args meth c cc nL own) {t : Nat} {cn : String} {fr : Nat → Option Nat} (hk : w k = (a, some (AR g t n fr))) (ht : (pw_tys g.2.1)[t]? = some (g.2.1 t, .object cn)) (h : 0 ≤ i ∧ i < n ∧ i < 2147483648) (hd : decode cc pc = .ok (.aaload, 1))
    (kk : pw_G g p l e R s m args below meth c nL Q cells slots (pc + 1) lv (va_rf (fr i.toNat) :: st) w) : pw_G g p l e R s m args below meth c nL Q cells slots pc lv (.int (iZ i) :: .ref a :: st) w := by
  intro ls H locs hl hH hS
  refine va_aldq (t0 := t) C.1 C.2.1 C.2.2.2.2.2.2.2.1 (hH.one hk) 0 rfl ht (iz_in h.1 h.2.1 h.2.2) hd ?_
  rw [iz_clamp ⟨by omega, h.2.2⟩]
  exact kk ls H locs hl hH hS
theorem pw_upd (f : Nat → Int) (j : Nat) (x : Int) (h : Int → Value) : updV (fun y => h (f y)) j (h x) = fun y => h (va_up f j x y) := by
  funext y
  by_cases hy : y = j
  · subst hy; simp [updV, va_up]
  · simp [updV, va_up, hy]
theorem pw_iast (C : pw_C g p s m args meth c cc nL own) (hk : w k = (a, some (AI g n f))) (h : 0 ≤ i ∧ i < n ∧ i < 2147483648) (hd : decode cc pc = .ok (.iastore, 1))
    (kk : ∀ w' : pw_W, w' k = (a, some (AI g n (va_up f i.toNat x))) → (∀ j, j ≠ k → w' j = w j) → pw_G g p l e R s m args below meth c nL Q cells slots (pc + 1) lv st w') : pw_G g p l e R s m args below meth c nL Q cells slots pc lv (.int (iZ x) :: .int (iZ i) :: .ref a :: st) w := by
  intro ls H locs hl hH hS
  refine W.iast C.1 C.2.1 (hH.1 k a _ hk).1 ((C.2.2.2.2.2.2.2.1.2 0 _ rfl).1 n (fun j => .int (iZ (f j)))) (fun q => by cases q) (by show ¬ (_ < 0 ∨ (arrV _ _ _).slots.size ≤ _); rw [arrV_size]; exact iz_in h.1 h.2.1 h.2.2) rfl rfl hd fun H1 e1 z oq => ?_
  refine kk _ (va_up_self _ _ _) (fun i hi => va_up_ne _ _ hi) ls H1 _ hl (hH.put hk ?_ oq) (hS.put z oq (hH.1 k a _ hk).2)
  rw [at_AI, e1, iz_clamp ⟨by omega, h.2.2⟩]
  exact congrArg some ((arrV_store (g.2.1 0) n i.toNat (fun j => Value.int (iZ (f j))) (Value.int (iZ x))).trans (congrArg (arrV (g.2.1 0) n) (pw_upd f _ x (fun z => Value.int (iZ z)))))
theorem pw_last (C : pw_C g p s m args meth c cc nL own) (hk : w k = (a, some (AJ g n f))) (h : 0 ≤ i ∧ i < n ∧ i < 2147483648) (hd : decode cc pc = .ok (.lastore, 1))
    (kk : ∀ w' : pw_W, w' k = (a, some (AJ g n (va_up f i.toNat x))) → (∀ j, j ≠ k → w' j = w j) → pw_G g p l e R s m args below meth c nL Q cells slots (pc + 1) lv st w') : pw_G g p l e R s m args below meth c nL Q cells slots pc lv (.long (lZ x) :: .int (iZ i) :: .ref a :: st) w := by
  intro ls H locs hl hH hS
  refine W.last C.1 C.2.1 (hH.1 k a _ hk).1 ((C.2.2.2.2.2.2.2.1.2 1 _ rfl).1 n (fun j => .long (lZ (f j)))) (fun q => by cases q) (by show ¬ (_ < 0 ∨ (arrV _ _ _).slots.size ≤ _); rw [arrV_size]; exact iz_in h.1 h.2.1 h.2.2) rfl rfl hd fun H1 e1 z oq => ?_
  refine kk _ (va_up_self _ _ _) (fun i hi => va_up_ne _ _ hi) ls H1 _ hl (hH.put hk ?_ oq) (hS.put z oq (hH.1 k a _ hk).2)
  rw [at_AJ, e1, iz_clamp ⟨by omega, h.2.2⟩]
  exact congrArg some ((arrV_store (g.2.1 1) n i.toNat (fun j => Value.long (lZ (f j))) (Value.long (lZ x))).trans (congrArg (arrV (g.2.1 1) n) (pw_upd f _ x (fun z => Value.long (lZ z)))))
theorem pw_cast (C : pw_C g p s m args meth c cc nL own) (hk : w k = (a, some (AC g n f))) (h : 0 ≤ i ∧ i < n ∧ i < 2147483648) (hx : narrow .char (.int (iZ x)) = .int (iZ x)) (hd : decode cc pc = .ok (.castore, 1))
    (kk : ∀ w' : pw_W, w' k = (a, some (AC g n (va_up f i.toNat x))) → (∀ j, j ≠ k → w' j = w j) → pw_G g p l e R s m args below meth c nL Q cells slots (pc + 1) lv st w') : pw_G g p l e R s m args below meth c nL Q cells slots pc lv (.int (iZ x) :: .int (iZ i) :: .ref a :: st) w := by
  intro ls H locs hl hH hS
  refine W.cast C.1 C.2.1 (hH.1 k a _ hk).1 ((C.2.2.2.2.2.2.2.1.2 2 _ rfl).1 n (fun j => .int (iZ (f j)))) (fun q => by cases q) (by show ¬ (_ < 0 ∨ (arrV _ _ _).slots.size ≤ _); rw [arrV_size]; exact iz_in h.1 h.2.1 h.2.2) rfl rfl hd fun H1 e1 z oq => ?_
  refine kk _ (va_up_self _ _ _) (fun i hi => va_up_ne _ _ hi) ls H1 _ hl (hH.put hk ?_ oq) (hS.put z oq (hH.1 k a _ hk).2)
  rw [at_AC, e1, iz_clamp ⟨by omega, h.2.2⟩, hx]
  exact congrArg some ((arrV_store (g.2.1 2) n i.toNat (fun j => Value.int (iZ (f j))) (Value.int (iZ x))).trans (congrArg (arrV (g.2.1 2) n) (pw_upd f _ x (fun z => Value.int (iZ z)))))
theorem pw_zast (C : pw_C g p s m args meth c cc nL own) (hk : w k = (a, some (AZ g n f))) (h : 0 ≤ i ∧ i < n ∧ i < 2147483648) (hx : narrow .boolean (.int (iZ x)) = .int (iZ x)) (hd : decode cc pc = .ok (.bastore, 1))
    (kk : ∀ w' : pw_W, w' k = (a, some (AZ g n (va_up f i.toNat x))) → (∀ j, j ≠ k → w' j = w j) → pw_G g p l e R s m args below meth c nL Q cells slots (pc + 1) lv st w') : pw_G g p l e R s m args below meth c nL Q cells slots pc lv (.int (iZ x) :: .int (iZ i) :: .ref a :: st) w := by
  intro ls H locs hl hH hS
  refine W.zast C.1 C.2.1 (hH.1 k a _ hk).1 ((C.2.2.2.2.2.2.2.1.2 3 _ rfl).1 n (fun j => .int (iZ (f j)))) (fun q => by cases q) (by show ¬ (_ < 0 ∨ (arrV _ _ _).slots.size ≤ _); rw [arrV_size]; exact iz_in h.1 h.2.1 h.2.2) rfl rfl hd fun H1 e1 z oq => ?_
  refine kk _ (va_up_self _ _ _) (fun i hi => va_up_ne _ _ hi) ls H1 _ hl (hH.put hk ?_ oq) (hS.put z oq (hH.1 k a _ hk).2)
  rw [at_AZ, e1, iz_clamp ⟨by omega, h.2.2⟩, hx]
  exact congrArg some ((arrV_store (g.2.1 3) n i.toNat (fun j => Value.int (iZ (f j))) (Value.int (iZ x))).trans (congrArg (arrV (g.2.1 3) n) (pw_upd f _ x (fun z => Value.int (iZ z)))))
theorem pw_alen (C : pw_C g p s m args meth c cc nL own) {t : Nat} {y : vp_A} {ty : FieldType} (hk : w k = (a, some (.inl (g.2.1 t, y)))) (ht : (pw_tys g.2.1)[t]? = some (g.2.1 t, ty)) (hd : decode cc pc = .ok (.arraylength, 1))
    (kk : pw_G g p l e R s m args below meth c nL Q cells slots (pc + 1) lv (.int (iZ y.1) :: st) w) : pw_G g p l e R s m args below meth c nL Q cells slots pc lv (.ref a :: st) w := by
  intro ls H locs hl hH hS
  exact va_alen (t0 := t) C.1 C.2.1 C.2.2.2.2.2.2.2.1 (hH.one hk) 0 rfl ht (by first | exact Int32.ofInt_eq_ofNat.symm | rfl) hd (kk ls H locs hl hH hS)
/-! NEW -/
theorem pw_new (k : Nat) (C : pw_C g p s m args meth c cc nL own) (hcl : pw_CL ci q ty0) (hlink : Cond.classLink own idx q.1 ∈ pw_T) (hinst : Cond.instantiable q.1 q.2.2 ∈ pw_T) (hini : Cond.initialized q.1 ∈ pw_T) (hfs : ∀ j, j < q.2.2 → defaultValue (ty0 j) = vp_V fs j) (hc : cells + 1 ≤ R.cells) (hsl : slots + q.2.2 ≤ R.slots) (hd : decode cc pc = .ok (.new idx, 3))
    (kk : ∀ (a : Nat) (w' : pw_W), w' k = (a, some (OB ci fs)) → (∀ i, i ≠ k → w' i = w i) → pw_G g p l e R s m args below meth c nL Q (cells + 1) (slots + q.2.2) (pc + 3) lv (.ref a :: st) w') : pw_G g p l e R s m args below meth c nL Q cells slots pc lv st w := by
  intro ls H locs hl hH hS
  have hKn := C.2.2.2.2.2.2.2.1.1 ci _ hcl.1
  refine W.newcK C.1 C.2.1 C.2.2.2.1 (C.2.2.2.2.1 _ hlink) (C.2.2.2.2.1 _ hinst) (C.2.2.2.2.1 _ hini) rfl hd hc hsl hKn.2.1 rfl fun H1 kC hkC e1 z1 o1 => ?_
  exact kk H.size _ (va_up_self _ _ _) (fun i hi => va_up_ne _ _ hi) ls H1 locs hl (hH.new (e := OB ci fs) o1 ⟨_, hcl.1, (u_born ty0 C.2.2.2.2.1 hcl.2.1 hKn hkC e1 hcl.2.2.1).to hfs⟩ (Nat.le_trans C.2.2.2.2.2.2.1 hS.1) k) ⟨Nat.le_trans hS.1 (by omega), fun x h1 h2 => (o1 x (Nat.lt_of_lt_of_le h1 hS.1)).trans (hS.2.1 x h1 h2), hS.2.2⟩
theorem pw_newA (k t : Nat) (C : pw_C g p s m args meth c cc nL own) {atype : ArrayType} {e0 : va_E} {N : Nat} (harr : Cond.arrayClass (newarray.typeOf atype) ∈ pw_T) (ht : (pw_tys g.2.1)[t]? = some (g.2.1 t, newarray.typeOf atype)) (he : ∀ H1 : Heap, H1[H1.size - 1]? = some (arrV (g.2.1 t) N (fun _ => defaultValue (newarray.typeOf atype))) → va_at g.1 vwCl (H1.size - 1, e0) H1) {i : Int} (hi : i = (N : Int)) (hN : N < 2147483648) (hbytes : N * componentBytes (newarray.typeOf atype) ≤ 536870912) (hc : cells + 1 ≤ R.cells) (hsl : slots + N ≤ R.slots) (hd : decode cc pc = .ok (.newarray atype, 2))
    (kk : ∀ (a : Nat) (w' : pw_W), w' k = (a, some e0) → (∀ i, i ≠ k → w' i = w i) → pw_G g p l e R s m args below meth c nL Q (cells + 1) (slots + N) (pc + 2) lv (.ref a :: st) w') : pw_G g p l e R s m args below meth c nL Q cells slots pc lv (.int (iZ i) :: st) w := by
  intro ls H locs hl hH hS
  subst hi
  have hin : inI (N : Int) := ⟨by omega, by omega⟩
  refine va_newaK C.1 C.2.1 (C.2.2.2.2.1 _ harr) rfl hd rfl (fun q => ?_) (N := N) ?_ hbytes hc hsl rfl fun H1 cA e1 z1 o1 hAr hNm => ?_
  · rw [← iz_0] at q
    have := (iz_lt hin (b := 0) ⟨by decide, by decide⟩).mp q
    omega
  · rw [iz_clamp hin]; omega
  · have hcA : cA = g.2.1 t := by
      have h2 := (C.2.2.2.2.2.2.2.1.2 t _ ht).2
      have h3 : s.vm.findClass ("[" ++ (newarray.typeOf atype).toString) = some (g.2.1 t) := by
        revert h2
        cases atype <;> exact fun h => h
      exact Option.some.inj (hNm.symm.trans h3)
    subst hcA
    have he1 := he H1 (by rw [z1]; exact e1)
    rw [z1] at he1
    exact kk H.size _ (va_up_self _ _ _) (fun i hi => va_up_ne _ _ hi) ls H1 locs hl (hH.new o1 he1 (Nat.le_trans C.2.2.2.2.2.2.1 hS.1) k) ⟨Nat.le_trans hS.1 (by omega), fun x h1 h2 => (o1 x (Nat.lt_of_lt_of_le h1 hS.1)).trans (hS.2.1 x h1 h2), hS.2.2⟩
end
end
section
/-! CALLS -/
/-- what the tables say of a method that is called on an object / statically / as a constructor -/
def pw_Y0 (y : MethodName) (cc : ByteArray) (nL : Nat) (ret : Option FieldType) (n : Nat) : Prop := Cond.code y cc nL ret ∈ pw_T ∧ Cond.initialized y.cls ∈ pw_T ∧ y.cls ≠ "java/lang/invoke/MethodHandle" ∧ y.cls ≠ "java/lang/invoke/VarHandle" ∧ (parseMethodDescriptor y.desc).map (fun d => d.parameters.length) = some n
def pw_YV (y : MethodName) (cc : ByteArray) (nL : Nat) (ret : Option FieldType) (n : Nat) : Prop := pw_Y0 y cc nL ret n ∧ Cond.instanceMethod y ∈ pw_T ∧ Cond.selects y.cls y y ∈ pw_T
def pw_YS (y : MethodName) (cc : ByteArray) (nL : Nat) (ret : Option FieldType) (n : Nat) : Prop := pw_Y0 y cc nL ret n ∧ Cond.static y ∈ pw_T
def pw_YI (y : MethodName) (cc : ByteArray) (nL n : Nat) : Prop := pw_Y0 y cc nL none n ∧ Cond.instanceMethod y ∈ pw_T ∧ y.name = "<init>"
theorem pw_goodT {c1 : Cond} (h : c1 ∈ pw_T) : GoodIn pw_T (c1 :: pw_T) := by
  intro w hw
  rcases List.mem_cons.mp hw with rfl | hw
  · exact ⟨h, pw_good h⟩
  · exact ⟨hw, pw_good hw⟩
section
variable {g : pw_P} {p : Program} {l : Launch} {e : Env} {R : Room} {s : State} {m : MethodId} {args : Array Value} {below : List Frame} {meth : Method} {c : Code} {cc : ByteArray} {nL : Nat} {own : String} {Q : State → Prop} {cells slots pc : Nat} {lv : List (Nat × Value)} {st : List Value} {w : pw_W}
variable {y : MethodName} {cc' : ByteArray} {nL' n idx a : Nat} {ret' : Option FieldType} {rm' : Room} {As stk : List Value} {post : Option Value → pw_W → Prop} {host : String}
/-- an object of a class of ours -/
def pw_rec (g : pw_P) (s : State) (w : pw_W) (a : Nat) (cn : String) : Prop := ∀ (H : Heap) (locs : List Loc), pw_H g w H → va_S (pw_A g) s.heap H locs → ∃ cell : Cell, H[a]? = some cell ∧ cell.vm.isStatics = false ∧ s.vm.findClass cn = some cell.cls
theorem pw_rec.of (C : pw_C g p s m args meth c cc nL own) {k ci : Nat} {q : vw_C} {fs : List Value} (hk : w k = (a, some (OB ci fs))) (hc : vwCl[ci]? = some q) : pw_rec g s w a q.1 :=
  fun H locs hH hS => va_recv C.2.2.2.2.2.2.2.1 (hH.one hk) hc (q0 := 0) rfl
theorem pw_rec.str (C : pw_C g p s m args meth c cc nL own) {i : Nat} (hi : i < 2) : pw_rec g s w (g.2.2.2 i) "java/lang/String" :=
  fun H locs hH hS => vk_recv C.2.2.2.2.2.2.2.2.2.1 hi hS
theorem pw_pre (C : pw_C g p s m args meth c cc nL own) {H : Heap} {locs : List Loc} (hH : pw_H g w H) (hS : va_S (pw_A g) s.heap H locs) (av : List Value) (U : State) (hU : U.heap = H) (hW : s.WarmedH U.vm) : pw_Pc g av w av.toArray U := by
  refine ⟨rfl, ?_, by rw [hU]; exact hH, va_K.moved hW.alike C.2.2.2.2.2.2.2.1, ?_⟩
  · rw [hU]; exact Nat.le_trans C.2.2.2.2.2.2.1 hS.1
  · rw [hU]; exact C.2.2.2.2.2.2.2.2.go hW hS
theorem pw_cont {H : Heap} {locs : List Loc} {ls : Array Slot} {av : Array Value} {mc ms : Nat} (hr : va_Run p l e R s m args below meth c H locs cells slots mc ms (F0 m pc ls stk) st (pw_Qc g post av) (pw_A g)) (hS : va_S (pw_A g) s.heap H locs)
    (kk : ∀ (r : Option Value) (w' : pw_W) (H1 : Heap) (locs1 : List Loc), post r w' → pw_H g w' H1 → va_S (pw_A g) s.heap H1 locs1 → W p l e R s m args below meth c H1 locs1 (cells + mc) (slots + ms) Q (F0 m (pc + 3) ls (r.toList ++ st))) : W p l e R s m args below meth c H locs cells slots Q (F0 m pc ls stk) := by
  intro T hT X
  obtain ⟨v, st₀, t, T', L, h0, X', hL, e1, e2, ⟨⟨r, w', hv, hp, hH⟩, hz, hk⟩, st'⟩ := hr T hT X
  cases hv
  rw [h0] at hz hk
  obtain ⟨t2, a1, b1⟩ := kk _ w' T'.heap (locs ++ L) hp (by rw [e1]; exact hH)
    ⟨Nat.le_trans hS.1 (by rw [e1]; exact hz), fun q h1 h2 => by rw [e1, hk q (Nat.lt_of_lt_of_le h1 hS.1) h2]; exact hS.2.1 q h1 h2, fun q hq => by
      rcases List.mem_append.mp hq with h | h
      · exact hS.2.2 q h
      · exact hL q h⟩ T' rfl X'
  exact ⟨t2, st' t2 a1, b1⟩
theorem pw_cb (C : pw_C g p s m args meth c cc nL own) (hY : pw_Y0 y cc' nL' ret' n) (hlink : Cond.methodLink own idx y ∈ pw_T) (hroom : rm'.frames + 1 ≤ R.frames ∧ 8 + (nL' + 11) + rm'.locals ≤ R.locals) : CallB R s args own idx y cc' nL' ret' (.code y cc' nL' ret' :: pw_T) rm' rm'.cells rm'.slots n :=
  callB_of n C.2.2.2.2.1 (pw_goodT hY.1) rfl rfl rfl (C.2.2.2.2.1 _ hY.2.1) (C.2.2.2.2.1 _ hlink) hY.2.2 hroom
theorem pw_callV (C : pw_C g p s m args meth c cc nL own) (hM : pw_M g l y cc' nL' ret' rm' (.ref a :: As) w post) (hY : pw_YV y cc' nL' ret' n) (hlink : Cond.methodLink own idx y ∈ pw_T) (hrec : pw_rec g s w a y.cls) (hn : As.length = n) (hroom : rm'.frames + 1 ≤ R.frames ∧ 8 + (nL' + 11) + rm'.locals ≤ R.locals) (hcs : cells + rm'.cells ≤ R.cells ∧ slots + rm'.slots ≤ R.slots) (hst : stk = As.reverse ++ .ref a :: st) (h8 : (st.map fun v => v.category).sum ≤ 8) (hd : decode cc pc = .ok (.invokevirtual idx, 3))
    (kk : ∀ (r : Option Value) (w' : pw_W), post r w' → pw_G g p l e R s m args below meth c nL Q (cells + rm'.cells) (slots + rm'.slots) (pc + 3) lv (r.toList ++ st) w') : pw_G g p l e R s m args below meth c nL Q cells slots pc lv stk w := by
  intro ls H locs hl hH hS
  refine pw_cont (va_runV (As := As) (C := y.cls) ⟨C.1, C.2.1, C.2.2.1, C.2.2.2.1, C.2.2.2.2.1⟩ hM ⟨pw_cb C hY.1 hlink hroom, C.2.2.2.2.1 _ hY.2.1, C.2.2.2.2.1 _ hY.2.2⟩ ⟨pw_blind, hrec H locs hH hS, pw_pre C hH hS _⟩ rfl hn hl.1 hst (lv_room h8) hd hcs) hS ?_
  exact fun r w' H1 locs1 hp hH1 hS1 => kk r w' hp ls H1 locs1 hl hH1 hS1
theorem pw_callS (C : pw_C g p s m args meth c cc nL own) (hM : pw_M g l y cc' nL' ret' rm' As w post) (hY : pw_YS y cc' nL' ret' n) (hlink : Cond.methodLink own idx y ∈ pw_T) (hn : As.length = n) (hroom : rm'.frames + 1 ≤ R.frames ∧ 8 + (nL' + 11) + rm'.locals ≤ R.locals) (hcs : cells + rm'.cells ≤ R.cells ∧ slots + rm'.slots ≤ R.slots) (hst : stk = As.reverse ++ st) (h8 : (st.map fun v => v.category).sum ≤ 8) (hd : decode cc pc = .ok (.invokestatic idx, 3))
    (kk : ∀ (r : Option Value) (w' : pw_W), post r w' → pw_G g p l e R s m args below meth c nL Q (cells + rm'.cells) (slots + rm'.slots) (pc + 3) lv (r.toList ++ st) w') : pw_G g p l e R s m args below meth c nL Q cells slots pc lv stk w := by
  intro ls H locs hl hH hS
  refine pw_cont (va_runS (As := As) ⟨C.1, C.2.1, C.2.2.1, C.2.2.2.1, C.2.2.2.2.1⟩ hM ⟨pw_cb C hY.1 hlink hroom, C.2.2.2.2.1 _ hY.2⟩ ⟨pw_blind, pw_pre C hH hS _⟩ rfl hn hl.1 hst (lv_room h8) hd hcs) hS ?_
  exact fun r w' H1 locs1 hp hH1 hS1 => kk r w' hp ls H1 locs1 hl hH1 hS1
theorem pw_callI (C : pw_C g p s m args meth c cc nL own) (hM : pw_M g l y cc' nL' none rm' (.ref a :: As) w post) (hY : pw_YI y cc' nL' n) (hlink : Cond.methodLink own idx y ∈ pw_T) (hn : As.length = n) (hroom : rm'.frames + 1 ≤ R.frames ∧ 8 + (nL' + 11) + rm'.locals ≤ R.locals) (hcs : cells + rm'.cells ≤ R.cells ∧ slots + rm'.slots ≤ R.slots) (hst : stk = As.reverse ++ .ref a :: st) (h8 : (st.map fun v => v.category).sum ≤ 8) (hd : decode cc pc = .ok (.invokespecial idx, 3))
    (kk : ∀ (r : Option Value) (w' : pw_W), post r w' → pw_G g p l e R s m args below meth c nL Q (cells + rm'.cells) (slots + rm'.slots) (pc + 3) lv (r.toList ++ st) w') : pw_G g p l e R s m args below meth c nL Q cells slots pc lv stk w := by
  intro ls H locs hl hH hS
  refine pw_cont (va_runI (As := As) ⟨C.1, C.2.1, C.2.2.1, C.2.2.2.1, C.2.2.2.2.1⟩ hM ⟨pw_cb C hY.1 hlink hroom, hY.2.2, C.2.2.2.2.1 _ hY.2.1⟩ ⟨pw_blind, pw_pre C hH hS _⟩ rfl hn hl.1 hst (lv_room h8) hd hcs) hS ?_
  exact fun r w' H1 locs1 hp hH1 hS1 => kk r w' hp ls H1 locs1 hl hH1 hS1
theorem pw_callIN (C : pw_C g p s m args meth c cc nL own) (hM : pw_M g l y cc' nL' none rm' (.ref a :: As) w post) (hY : pw_YI y cc' nL' n) (hlink : Cond.methodLinkNest own idx y host ∈ pw_N) (hn : As.length = n) (hroom : rm'.frames + 1 ≤ R.frames ∧ 8 + (nL' + 11) + rm'.locals ≤ R.locals) (hcs : cells + rm'.cells ≤ R.cells ∧ slots + rm'.slots ≤ R.slots) (hst : stk = As.reverse ++ .ref a :: st) (h8 : (st.map fun v => v.category).sum ≤ 8) (hd : decode cc pc = .ok (.invokespecial idx, 3))
    (kk : ∀ (r : Option Value) (w' : pw_W), post r w' → pw_G g p l e R s m args below meth c nL Q (cells + rm'.cells) (slots + rm'.slots) (pc + 3) lv (r.toList ++ st) w') : pw_G g p l e R s m args below meth c nL Q cells slots pc lv stk w := by
  intro ls H locs hl hH hS
  refine pw_cont (va_runIN (As := As) ⟨C.1, C.2.1, C.2.2.1, C.2.2.2.1, C.2.2.2.2.1⟩ hM ⟨va_cnB (ws' := pw_T) n C.2.2.2.2.1 (pw_goodT hY.1.1) rfl rfl rfl (C.2.2.2.2.2.2.2.2.1 _ hlink) (C.2.2.2.2.1 _ hY.1.2.1) hY.1.2.2 hroom, hY.2.2, C.2.2.2.2.1 _ hY.2.1⟩ ⟨pw_blind, pw_pre C hH hS _⟩ rfl hn hl.1 hst (lv_room h8) hd hcs) hS ?_
  exact fun r w' H1 locs1 hp hH1 hS1 => kk r w' hp ls H1 locs1 hl hH1 hS1
/-- Object's constructor -/
theorem pw_obj (C : pw_C g p s m args meth c cc nL own) (h1 : Cond.methodLink own idx objectInit ∈ pw_T) (h2 : Cond.instanceMethod objectInit ∈ pw_T) (h3 : Cond.code objectInit ⟨#[0xb1]⟩ 1 none ∈ pw_T) (hf : 1 ≤ R.frames) (hlo : (st.map fun v => v.category).sum + 12 ≤ R.locals) (hd : decode cc pc = .ok (.invokespecial idx, 3))
    (kk : pw_G g p l e R s m args below meth c nL Q cells slots (pc + 3) lv st w) : pw_G g p l e R s m args below meth c nL Q cells slots pc lv (.ref a :: st) w := by
  intro ls H locs hl hH hS
  refine W.objInit C.1 C.2.1 C.2.2.2.1 (C.2.2.2.2.1 _ h1) (C.2.2.2.2.1 _ h2) (C.2.2.2.2.1 _ h3) rfl (by rw [C.2.2.1]; exact hl.1) rfl hd hf ?_ ?_
  · show 2 * 0 + _ + 12 ≤ _
    omega
  · exact W.eq (g2 := F0 m (pc + 3) ls st) rfl (kk ls H locs hl hH hS)
theorem pw_max (C : pw_C g p s m args meth c cc nL own) {x z : Int} (hx : inI x) (hz : inI z) (h1 : Cond.methodLink own idx Lib.Math.max.name ∈ pw_T) (h2 : Cond.static Lib.Math.max.name ∈ pw_T) (h3 : Cond.initialized "java/lang/Math" ∈ pw_T) (h4 : Cond.code Lib.Math.max.name Lib.Math.max.code 2 (some .int) ∈ pw_T) (hf : 1 ≤ R.frames) (hlo : (st.map fun v => v.category).sum + 13 ≤ R.locals) (hc : cells ≤ R.cells ∧ slots ≤ R.slots) (hd : decode cc pc = .ok (.invokestatic idx, 3))
    (kk : pw_G g p l e R s m args below meth c nL Q cells slots (pc + 3) lv (.int (iZ (if x < z then z else x)) :: st) w) : pw_G g p l e R s m args below meth c nL Q cells slots pc lv (.int (iZ z) :: .int (iZ x) :: st) w := by
  intro ls H locs hl hH hS
  refine va_mmax C.1 C.2.1 (by rw [C.2.2.1]; exact hl.1.symm) C.2.2.2.1 (C.2.2.2.2.1 _ h1) (C.2.2.2.2.1 _ h2) (C.2.2.2.2.1 _ h3) (C.2.2.2.2.1 _ h4) hf hlo hc.1 hc.2 hd ?_
  have h := kk ls H locs hl hH hS
  have e : (if iZ x < iZ z then iZ z else iZ x) = iZ (if x < z then z else x) := by
    by_cases hq : x < z
    · rw [if_pos hq, if_pos ((iz_lt hx hz).mpr hq)]
    · rw [if_neg hq, if_neg (fun h => hq ((iz_lt hx hz).mp h))]
  rw [e]
  exact h
theorem pw_min (C : pw_C g p s m args meth c cc nL own) {x z : Int} (hx : inI x) (hz : inI z) (h1 : Cond.methodLink own idx Lib.Math.min.name ∈ pw_T) (h2 : Cond.static Lib.Math.min.name ∈ pw_T) (h3 : Cond.initialized "java/lang/Math" ∈ pw_T) (h4 : Cond.code Lib.Math.min.name Lib.Math.min.code 2 (some .int) ∈ pw_T) (hf : 1 ≤ R.frames) (hlo : (st.map fun v => v.category).sum + 13 ≤ R.locals) (hc : cells ≤ R.cells ∧ slots ≤ R.slots) (hd : decode cc pc = .ok (.invokestatic idx, 3))
    (kk : pw_G g p l e R s m args below meth c nL Q cells slots (pc + 3) lv (.int (iZ (if z < x then z else x)) :: st) w) : pw_G g p l e R s m args below meth c nL Q cells slots pc lv (.int (iZ z) :: .int (iZ x) :: st) w := by
  intro ls H locs hl hH hS
  refine va_mmin C.1 C.2.1 (by rw [C.2.2.1]; exact hl.1.symm) C.2.2.2.1 (C.2.2.2.2.1 _ h1) (C.2.2.2.2.1 _ h2) (C.2.2.2.2.1 _ h3) (C.2.2.2.2.1 _ h4) hf hlo hc.1 hc.2 hd ?_
  have h := kk ls H locs hl hH hS
  have e : (if iZ z < iZ x then iZ z else iZ x) = iZ (if z < x then z else x) := by
    by_cases hq : z < x
    · rw [if_pos hq, if_pos ((iz_lt hz hx).mpr hq)]
    · rw [if_neg hq, if_neg (fun h => hq ((iz_lt hz hx).mp h))]
  rw [e]
  exact h
end
end
section
theorem pt_0 {w : Cond} (h : w ∈ k2_sels lw_privs) : w ∈ lw_tbl := List.mem_append_left _ h
theorem pt_r {w : Cond} (h : w ∈ tables_1) : w ∈ lw_tbl := List.mem_append_right _ h
theorem pt_1 {w : Cond} (h : w ∈ tables_1_1) : w ∈ lw_tbl := pt_r (List.mem_append_left _ h)
theorem pt_2 {w : Cond} (h : w ∈ tables_1_2) : w ∈ lw_tbl := pt_r (List.mem_append_right _ (List.mem_append_left _ h))
theorem pt_3 {w : Cond} (h : w ∈ tables_1_3) : w ∈ lw_tbl := pt_r (List.mem_append_right _ (List.mem_append_right _ (List.mem_append_left _ h)))
theorem pt_4 {w : Cond} (h : w ∈ tables_1_4) : w ∈ lw_tbl := pt_r (List.mem_append_right _ (List.mem_append_right _ (List.mem_append_right _ (List.mem_append_left _ h))))
theorem pt_5 {w : Cond} (h : w ∈ tables_1_5) : w ∈ lw_tbl := pt_r (List.mem_append_right _ (List.mem_append_right _ (List.mem_append_right _ (List.mem_append_right _ (List.mem_append_left _ h)))))
theorem pt_6 {w : Cond} (h : w ∈ tables_1_6) : w ∈ lw_tbl := pt_r (List.mem_append_right _ (List.mem_append_right _ (List.mem_append_right _ (List.mem_append_right _ (List.mem_append_right _ (List.mem_append_left _ h))))))
theorem pt_7 {w : Cond} (h : w ∈ tables_1_7) : w ∈ lw_tbl := pt_r (List.mem_append_right _ (List.mem_append_right _ (List.mem_append_right _ (List.mem_append_right _ (List.mem_append_right _ (List.mem_append_right _ h))))))
theorem pw_wsK {C : String} {T : u_T} (N : Nat) (h : ∀ k, k < N → u_lay C T k ∈ pw_T) : ∀ w ∈ u_ws C T N, w ∈ pw_T := by
  intro w hw
  obtain ⟨k, hk, rfl⟩ := List.mem_map.mp hw
  exact h k (List.mem_range.mp hk)
theorem pw_lt0 {P : Nat → Prop} : ∀ k, k < 0 → P k := fun k h => absurd h (Nat.not_lt_zero k)
theorem pw_ltS {P : Nat → Prop} {n : Nat} (h : ∀ k, k < n → P k) (hn : P n) : ∀ k, k < n + 1 → P k := fun k hk => (Nat.lt_succ_iff_lt_or_eq.mp hk).elim (h k) (fun e => e ▸ hn)
theorem pw_wsR {C : String} {T : u_T} {N : Nat} (ps : List Nat) (h : u_ws C T N = ps.filterMap (fun i => lw_tbl[i]?)) (hg : (u_ws C T N).all goodWord = true) : ∀ w ∈ u_ws C T N, w ∈ pw_T := by
  intro w hw
  have h1 := List.all_eq_true.mp hg w hw
  rw [h] at hw
  obtain ⟨i, -, hi⟩ := List.mem_filterMap.mp hw
  exact pw_in (List.mem_of_getElem? hi) h1
theorem pw_inD {w : Cond} (h : (decide (w ∈ lw_tbl) && goodWord w) = true) : w ∈ pw_T := by
  simp only [Bool.and_eq_true, decide_eq_true_eq] at h
  exact pw_in h.1 h.2
theorem pw_inE {w : Cond} (h : (decide (w ∈ lw_tbl) && pw_nest w) = true) : w ∈ pw_N := by
  simp only [Bool.and_eq_true, decide_eq_true_eq] at h
  exact pw_inN h.1 h.2
theorem lay_X0_0 : u_lay RX0 TX0 0 ∈ pw_T := pw_in (pt_3 (List.mem_of_getElem? (i := 175) (by rfl))) (by rfl)
theorem lay_X0_1 : u_lay RX0 TX0 1 ∈ pw_T := pw_in (pt_3 (List.mem_of_getElem? (i := 177) (by rfl))) (by rfl)
theorem lay_X0_2 : u_lay RX0 TX0 2 ∈ pw_T := pw_in (pt_3 (List.mem_of_getElem? (i := 179) (by rfl))) (by rfl)
theorem lay_X0_3 : u_lay RX0 TX0 3 ∈ pw_T := pw_in (pt_3 (List.mem_of_getElem? (i := 181) (by rfl))) (by rfl)
theorem lay_X0_4 : u_lay RX0 TX0 4 ∈ pw_T := pw_in (pt_3 (List.mem_of_getElem? (i := 183) (by rfl))) (by rfl)
theorem lay_X0_5 : u_lay RX0 TX0 5 ∈ pw_T := pw_in (pt_3 (List.mem_of_getElem? (i := 185) (by rfl))) (by rfl)
theorem lay_X0_6 : u_lay RX0 TX0 6 ∈ pw_T := pw_in (pt_3 (List.mem_of_getElem? (i := 187) (by rfl))) (by rfl)
theorem cl_X0 : pw_CL 0 (RX0, TX0, 7) tyX0 := ⟨rfl, pw_wsK 7 (pw_ltS (pw_ltS (pw_ltS (pw_ltS (pw_ltS (pw_ltS (pw_ltS (pw_lt0) lay_X0_0) lay_X0_1) lay_X0_2) lay_X0_3) lay_X0_4) lay_X0_5) lay_X0_6), tyX0_ok, nmX0⟩
theorem in_X0 : Cond.instantiable RX0 7 ∈ pw_T := pw_in (pt_3 (List.mem_of_getElem? (i := 157) (by rfl))) (by rfl)
theorem ii_X0 : Cond.initialized RX0 ∈ pw_T := pw_in (pt_1 (List.mem_of_getElem? (i := 18) (by rfl))) (by rfl)
theorem lay_X1_0 : u_lay RX1 TX1 0 ∈ pw_T := pw_in (pt_2 (List.mem_of_getElem? (i := 114) (by rfl))) (by rfl)
theorem lay_X1_1 : u_lay RX1 TX1 1 ∈ pw_T := pw_in (pt_2 (List.mem_of_getElem? (i := 116) (by rfl))) (by rfl)
theorem lay_X1_2 : u_lay RX1 TX1 2 ∈ pw_T := pw_in (pt_2 (List.mem_of_getElem? (i := 118) (by rfl))) (by rfl)
theorem lay_X1_3 : u_lay RX1 TX1 3 ∈ pw_T := pw_in (pt_2 (List.mem_of_getElem? (i := 120) (by rfl))) (by rfl)
theorem lay_X1_4 : u_lay RX1 TX1 4 ∈ pw_T := pw_in (pt_2 (List.mem_of_getElem? (i := 122) (by rfl))) (by rfl)
theorem lay_X1_5 : u_lay RX1 TX1 5 ∈ pw_T := pw_in (pt_2 (List.mem_of_getElem? (i := 124) (by rfl))) (by rfl)
theorem cl_X1 : pw_CL 1 (RX1, TX1, 6) tyX1 := ⟨rfl, pw_wsK 6 (pw_ltS (pw_ltS (pw_ltS (pw_ltS (pw_ltS (pw_ltS (pw_lt0) lay_X1_0) lay_X1_1) lay_X1_2) lay_X1_3) lay_X1_4) lay_X1_5), tyX1_ok, nmX1⟩
theorem in_X1 : Cond.instantiable RX1 6 ∈ pw_T := pw_in (pt_2 (List.mem_of_getElem? (i := 82) (by rfl))) (by rfl)
theorem ii_X1 : Cond.initialized RX1 ∈ pw_T := pw_in (pt_1 (List.mem_of_getElem? (i := 14) (by rfl))) (by rfl)
theorem lay_X2_0 : u_lay RX2 TX2 0 ∈ pw_T := pw_in (pt_4 (List.mem_of_getElem? (i := 52) (by rfl))) (by rfl)
theorem lay_X2_1 : u_lay RX2 TX2 1 ∈ pw_T := pw_in (pt_4 (List.mem_of_getElem? (i := 54) (by rfl))) (by rfl)
theorem lay_X2_2 : u_lay RX2 TX2 2 ∈ pw_T := pw_in (pt_4 (List.mem_of_getElem? (i := 56) (by rfl))) (by rfl)
theorem lay_X2_3 : u_lay RX2 TX2 3 ∈ pw_T := pw_in (pt_4 (List.mem_of_getElem? (i := 58) (by rfl))) (by rfl)
theorem cl_X2 : pw_CL 2 (RX2, TX2, 4) tyX2 := ⟨rfl, pw_wsK 4 (pw_ltS (pw_ltS (pw_ltS (pw_ltS (pw_lt0) lay_X2_0) lay_X2_1) lay_X2_2) lay_X2_3), tyX2_ok, nmX2⟩
theorem in_X2 : Cond.instantiable RX2 4 ∈ pw_T := pw_in (pt_4 (List.mem_of_getElem? (i := 34) (by rfl))) (by rfl)
theorem ii_X2 : Cond.initialized RX2 ∈ pw_T := pw_in (pt_1 (List.mem_of_getElem? (i := 19) (by rfl))) (by rfl)
theorem lay_X3_0 : u_lay RX3 TX3 0 ∈ pw_T := pw_in (pt_2 (List.mem_of_getElem? (i := 56) (by rfl))) (by rfl)
theorem lay_X3_1 : u_lay RX3 TX3 1 ∈ pw_T := pw_in (pt_2 (List.mem_of_getElem? (i := 58) (by rfl))) (by rfl)
theorem lay_X3_2 : u_lay RX3 TX3 2 ∈ pw_T := pw_in (pt_2 (List.mem_of_getElem? (i := 60) (by rfl))) (by rfl)
theorem lay_X3_3 : u_lay RX3 TX3 3 ∈ pw_T := pw_in (pt_2 (List.mem_of_getElem? (i := 62) (by rfl))) (by rfl)
theorem lay_X3_4 : u_lay RX3 TX3 4 ∈ pw_T := pw_in (pt_2 (List.mem_of_getElem? (i := 64) (by rfl))) (by rfl)
theorem lay_X3_5 : u_lay RX3 TX3 5 ∈ pw_T := pw_in (pt_2 (List.mem_of_getElem? (i := 66) (by rfl))) (by rfl)
theorem lay_X3_6 : u_lay RX3 TX3 6 ∈ pw_T := pw_in (pt_2 (List.mem_of_getElem? (i := 68) (by rfl))) (by rfl)
theorem lay_X3_7 : u_lay RX3 TX3 7 ∈ pw_T := pw_in (pt_2 (List.mem_of_getElem? (i := 70) (by rfl))) (by rfl)
theorem lay_X3_8 : u_lay RX3 TX3 8 ∈ pw_T := pw_in (pt_2 (List.mem_of_getElem? (i := 72) (by rfl))) (by rfl)
theorem lay_X3_9 : u_lay RX3 TX3 9 ∈ pw_T := pw_in (pt_2 (List.mem_of_getElem? (i := 74) (by rfl))) (by rfl)
theorem lay_X3_10 : u_lay RX3 TX3 10 ∈ pw_T := pw_in (pt_2 (List.mem_of_getElem? (i := 76) (by rfl))) (by rfl)
theorem lay_X3_11 : u_lay RX3 TX3 11 ∈ pw_T := pw_in (pt_2 (List.mem_of_getElem? (i := 78) (by rfl))) (by rfl)
theorem cl_X3 : pw_CL 3 (RX3, TX3, 12) tyX3 := ⟨rfl, pw_wsK 12 (pw_ltS (pw_ltS (pw_ltS (pw_ltS (pw_ltS (pw_ltS (pw_ltS (pw_ltS (pw_ltS (pw_ltS (pw_ltS (pw_ltS (pw_lt0) lay_X3_0) lay_X3_1) lay_X3_2) lay_X3_3) lay_X3_4) lay_X3_5) lay_X3_6) lay_X3_7) lay_X3_8) lay_X3_9) lay_X3_10) lay_X3_11), tyX3_ok, nmX3⟩
theorem in_X3 : Cond.instantiable RX3 12 ∈ pw_T := pw_in (pt_2 (List.mem_of_getElem? (i := 33) (by rfl))) (by rfl)
theorem ii_X3 : Cond.initialized RX3 ∈ pw_T := pw_in (pt_1 (List.mem_of_getElem? (i := 13) (by rfl))) (by rfl)
theorem lay_X4_0 : u_lay RX4 TX4 0 ∈ pw_T := pw_in (pt_2 (List.mem_of_getElem? (i := 27) (by rfl))) (by rfl)
theorem lay_X4_1 : u_lay RX4 TX4 1 ∈ pw_T := pw_in (pt_2 (List.mem_of_getElem? (i := 29) (by rfl))) (by rfl)
theorem cl_X4 : pw_CL 4 (RX4, TX4, 2) tyX4 := ⟨rfl, pw_wsK 2 (pw_ltS (pw_ltS (pw_lt0) lay_X4_0) lay_X4_1), tyX4_ok, nmX4⟩
theorem in_X4 : Cond.instantiable RX4 2 ∈ pw_T := pw_in (pt_2 (List.mem_of_getElem? (i := 16) (by rfl))) (by rfl)
theorem ii_X4 : Cond.initialized RX4 ∈ pw_T := pw_in (pt_1 (List.mem_of_getElem? (i := 12) (by rfl))) (by rfl)
theorem lay_X5_0 : u_lay RX5 TX5 0 ∈ pw_T := pw_in (pt_1 (List.mem_of_getElem? (i := 202) (by rfl))) (by rfl)
theorem lay_X5_1 : u_lay RX5 TX5 1 ∈ pw_T := pw_in (pt_1 (List.mem_of_getElem? (i := 204) (by rfl))) (by rfl)
theorem lay_X5_2 : u_lay RX5 TX5 2 ∈ pw_T := pw_in (pt_1 (List.mem_of_getElem? (i := 206) (by rfl))) (by rfl)
theorem lay_X5_3 : u_lay RX5 TX5 3 ∈ pw_T := pw_in (pt_1 (List.mem_of_getElem? (i := 208) (by rfl))) (by rfl)
theorem lay_X5_4 : u_lay RX5 TX5 4 ∈ pw_T := pw_in (pt_1 (List.mem_of_getElem? (i := 210) (by rfl))) (by rfl)
theorem lay_X5_5 : u_lay RX5 TX5 5 ∈ pw_T := pw_in (pt_1 (List.mem_of_getElem? (i := 212) (by rfl))) (by rfl)
theorem lay_X5_6 : u_lay RX5 TX5 6 ∈ pw_T := pw_in (pt_1 (List.mem_of_getElem? (i := 214) (by rfl))) (by rfl)
theorem lay_X5_7 : u_lay RX5 TX5 7 ∈ pw_T := pw_in (pt_1 (List.mem_of_getElem? (i := 216) (by rfl))) (by rfl)
theorem lay_X5_8 : u_lay RX5 TX5 8 ∈ pw_T := pw_in (pt_1 (List.mem_of_getElem? (i := 218) (by rfl))) (by rfl)
theorem lay_X5_9 : u_lay RX5 TX5 9 ∈ pw_T := pw_in (pt_1 (List.mem_of_getElem? (i := 220) (by rfl))) (by rfl)
theorem lay_X5_10 : u_lay RX5 TX5 10 ∈ pw_T := pw_in (pt_1 (List.mem_of_getElem? (i := 222) (by rfl))) (by rfl)
theorem lay_X5_11 : u_lay RX5 TX5 11 ∈ pw_T := pw_in (pt_1 (List.mem_of_getElem? (i := 224) (by rfl))) (by rfl)
theorem lay_X5_12 : u_lay RX5 TX5 12 ∈ pw_T := pw_in (pt_1 (List.mem_of_getElem? (i := 226) (by rfl))) (by rfl)
theorem lay_X5_13 : u_lay RX5 TX5 13 ∈ pw_T := pw_in (pt_1 (List.mem_of_getElem? (i := 228) (by rfl))) (by rfl)
theorem cl_X5 : pw_CL 5 (RX5, TX5, 14) tyX5 := ⟨rfl, pw_wsK 14 (pw_ltS (pw_ltS (pw_ltS (pw_ltS (pw_ltS (pw_ltS (pw_ltS (pw_ltS (pw_ltS (pw_ltS (pw_ltS (pw_ltS (pw_ltS (pw_ltS (pw_lt0) lay_X5_0) lay_X5_1) lay_X5_2) lay_X5_3) lay_X5_4) lay_X5_5) lay_X5_6) lay_X5_7) lay_X5_8) lay_X5_9) lay_X5_10) lay_X5_11) lay_X5_12) lay_X5_13), tyX5_ok, nmX5⟩
theorem in_X5 : Cond.instantiable RX5 14 ∈ pw_T := pw_in (pt_1 (List.mem_of_getElem? (i := 180) (by rfl))) (by rfl)
theorem ii_X5 : Cond.initialized RX5 ∈ pw_T := pw_in (pt_1 (List.mem_of_getElem? (i := 10) (by rfl))) (by rfl)
theorem lay_X6_0 : u_lay RX6 TX6 0 ∈ pw_T := pw_in (pt_1 (List.mem_of_getElem? (i := 163) (by rfl))) (by rfl)
theorem lay_X6_1 : u_lay RX6 TX6 1 ∈ pw_T := pw_in (pt_1 (List.mem_of_getElem? (i := 165) (by rfl))) (by rfl)
theorem lay_X6_2 : u_lay RX6 TX6 2 ∈ pw_T := pw_in (pt_1 (List.mem_of_getElem? (i := 167) (by rfl))) (by rfl)
theorem lay_X6_3 : u_lay RX6 TX6 3 ∈ pw_T := pw_in (pt_1 (List.mem_of_getElem? (i := 169) (by rfl))) (by rfl)
theorem lay_X6_4 : u_lay RX6 TX6 4 ∈ pw_T := pw_in (pt_1 (List.mem_of_getElem? (i := 171) (by rfl))) (by rfl)
theorem lay_X6_5 : u_lay RX6 TX6 5 ∈ pw_T := pw_in (pt_1 (List.mem_of_getElem? (i := 173) (by rfl))) (by rfl)
theorem cl_X6 : pw_CL 6 (RX6, TX6, 6) tyX6 := ⟨rfl, pw_wsK 6 (pw_ltS (pw_ltS (pw_ltS (pw_ltS (pw_ltS (pw_ltS (pw_lt0) lay_X6_0) lay_X6_1) lay_X6_2) lay_X6_3) lay_X6_4) lay_X6_5), tyX6_ok, nmX6⟩
theorem in_X6 : Cond.instantiable RX6 6 ∈ pw_T := pw_in (pt_1 (List.mem_of_getElem? (i := 29) (by rfl))) (by rfl)
theorem ii_X6 : Cond.initialized RX6 ∈ pw_T := pw_in (pt_1 (List.mem_of_getElem? (i := 2) (by rfl))) (by rfl)
theorem lay_X7_0 : u_lay RX7 TX7 0 ∈ pw_T := pw_in (pt_2 (List.mem_of_getElem? (i := 4) (by rfl))) (by rfl)
theorem lay_X7_1 : u_lay RX7 TX7 1 ∈ pw_T := pw_in (pt_2 (List.mem_of_getElem? (i := 6) (by rfl))) (by rfl)
theorem lay_X7_2 : u_lay RX7 TX7 2 ∈ pw_T := pw_in (pt_2 (List.mem_of_getElem? (i := 8) (by rfl))) (by rfl)
theorem lay_X7_3 : u_lay RX7 TX7 3 ∈ pw_T := pw_in (pt_2 (List.mem_of_getElem? (i := 10) (by rfl))) (by rfl)
theorem lay_X7_4 : u_lay RX7 TX7 4 ∈ pw_T := pw_in (pt_2 (List.mem_of_getElem? (i := 12) (by rfl))) (by rfl)
theorem cl_X7 : pw_CL 7 (RX7, TX7, 5) tyX7 := ⟨rfl, pw_wsK 5 (pw_ltS (pw_ltS (pw_ltS (pw_ltS (pw_ltS (pw_lt0) lay_X7_0) lay_X7_1) lay_X7_2) lay_X7_3) lay_X7_4), tyX7_ok, nmX7⟩
theorem in_X7 : Cond.instantiable RX7 5 ∈ pw_T := pw_in (pt_1 (List.mem_of_getElem? (i := 233) (by rfl))) (by rfl)
theorem ii_X7 : Cond.initialized RX7 ∈ pw_T := pw_in (pt_1 (List.mem_of_getElem? (i := 11) (by rfl))) (by rfl)
theorem lay_X8_0 : u_lay RX8 TX8 0 ∈ pw_T := pw_in (pt_2 (List.mem_of_getElem? (i := 97) (by rfl))) (by rfl)
theorem lay_X8_1 : u_lay RX8 TX8 1 ∈ pw_T := pw_in (pt_2 (List.mem_of_getElem? (i := 99) (by rfl))) (by rfl)
theorem lay_X8_2 : u_lay RX8 TX8 2 ∈ pw_T := pw_in (pt_2 (List.mem_of_getElem? (i := 101) (by rfl))) (by rfl)
theorem lay_X8_3 : u_lay RX8 TX8 3 ∈ pw_T := pw_in (pt_2 (List.mem_of_getElem? (i := 103) (by rfl))) (by rfl)
theorem cl_X8 : pw_CL 8 (RX8, TX8, 4) tyX8 := ⟨rfl, pw_wsK 4 (pw_ltS (pw_ltS (pw_ltS (pw_ltS (pw_lt0) lay_X8_0) lay_X8_1) lay_X8_2) lay_X8_3), tyX8_ok, nmX8⟩
theorem in_X8 : Cond.instantiable RX8 4 ∈ pw_T := pw_in (pt_2 (List.mem_of_getElem? (i := 88) (by rfl))) (by rfl)
theorem ii_X8 : Cond.initialized RX8 ∈ pw_T := pw_in (pt_1 (List.mem_of_getElem? (i := 15) (by rfl))) (by rfl)
theorem lay_X9_0 : u_lay RX9 TX9 0 ∈ pw_T := pw_in (pt_2 (List.mem_of_getElem? (i := 134) (by rfl))) (by rfl)
theorem lay_X9_1 : u_lay RX9 TX9 1 ∈ pw_T := pw_in (pt_2 (List.mem_of_getElem? (i := 136) (by rfl))) (by rfl)
theorem lay_X9_2 : u_lay RX9 TX9 2 ∈ pw_T := pw_in (pt_2 (List.mem_of_getElem? (i := 138) (by rfl))) (by rfl)
theorem lay_X9_3 : u_lay RX9 TX9 3 ∈ pw_T := pw_in (pt_2 (List.mem_of_getElem? (i := 140) (by rfl))) (by rfl)
theorem lay_X9_4 : u_lay RX9 TX9 4 ∈ pw_T := pw_in (pt_2 (List.mem_of_getElem? (i := 142) (by rfl))) (by rfl)
theorem lay_X9_5 : u_lay RX9 TX9 5 ∈ pw_T := pw_in (pt_2 (List.mem_of_getElem? (i := 144) (by rfl))) (by rfl)
theorem lay_X9_6 : u_lay RX9 TX9 6 ∈ pw_T := pw_in (pt_2 (List.mem_of_getElem? (i := 146) (by rfl))) (by rfl)
theorem cl_X9 : pw_CL 9 (RX9, TX9, 7) tyX9 := ⟨rfl, pw_wsK 7 (pw_ltS (pw_ltS (pw_ltS (pw_ltS (pw_ltS (pw_ltS (pw_ltS (pw_lt0) lay_X9_0) lay_X9_1) lay_X9_2) lay_X9_3) lay_X9_4) lay_X9_5) lay_X9_6), tyX9_ok, nmX9⟩
theorem in_X9 : Cond.instantiable RX9 7 ∈ pw_T := pw_in (pt_1 (List.mem_of_getElem? (i := 21) (by rfl))) (by rfl)
theorem ii_X9 : Cond.initialized RX9 ∈ pw_T := pw_in (pt_1 (List.mem_of_getElem? (i := 1) (by rfl))) (by rfl)
theorem lay_X10_0 : u_lay RX10 TX10 0 ∈ pw_T := pw_in (pt_5 (List.mem_of_getElem? (i := 49) (by rfl))) (by rfl)
theorem lay_X10_1 : u_lay RX10 TX10 1 ∈ pw_T := pw_in (pt_5 (List.mem_of_getElem? (i := 51) (by rfl))) (by rfl)
theorem lay_X10_2 : u_lay RX10 TX10 2 ∈ pw_T := pw_in (pt_5 (List.mem_of_getElem? (i := 53) (by rfl))) (by rfl)
theorem lay_X10_3 : u_lay RX10 TX10 3 ∈ pw_T := pw_in (pt_5 (List.mem_of_getElem? (i := 55) (by rfl))) (by rfl)
theorem lay_X10_4 : u_lay RX10 TX10 4 ∈ pw_T := pw_in (pt_5 (List.mem_of_getElem? (i := 57) (by rfl))) (by rfl)
theorem lay_X10_5 : u_lay RX10 TX10 5 ∈ pw_T := pw_in (pt_5 (List.mem_of_getElem? (i := 59) (by rfl))) (by rfl)
theorem lay_X10_6 : u_lay RX10 TX10 6 ∈ pw_T := pw_in (pt_5 (List.mem_of_getElem? (i := 61) (by rfl))) (by rfl)
theorem lay_X10_7 : u_lay RX10 TX10 7 ∈ pw_T := pw_in (pt_5 (List.mem_of_getElem? (i := 63) (by rfl))) (by rfl)
theorem lay_X10_8 : u_lay RX10 TX10 8 ∈ pw_T := pw_in (pt_5 (List.mem_of_getElem? (i := 65) (by rfl))) (by rfl)
theorem lay_X10_9 : u_lay RX10 TX10 9 ∈ pw_T := pw_in (pt_5 (List.mem_of_getElem? (i := 67) (by rfl))) (by rfl)
theorem lay_X10_10 : u_lay RX10 TX10 10 ∈ pw_T := pw_in (pt_5 (List.mem_of_getElem? (i := 69) (by rfl))) (by rfl)
theorem lay_X10_11 : u_lay RX10 TX10 11 ∈ pw_T := pw_in (pt_5 (List.mem_of_getElem? (i := 71) (by rfl))) (by rfl)
theorem lay_X10_12 : u_lay RX10 TX10 12 ∈ pw_T := pw_in (pt_5 (List.mem_of_getElem? (i := 73) (by rfl))) (by rfl)
theorem lay_X10_13 : u_lay RX10 TX10 13 ∈ pw_T := pw_in (pt_5 (List.mem_of_getElem? (i := 75) (by rfl))) (by rfl)
theorem lay_X10_14 : u_lay RX10 TX10 14 ∈ pw_T := pw_in (pt_5 (List.mem_of_getElem? (i := 77) (by rfl))) (by rfl)
theorem lay_X10_15 : u_lay RX10 TX10 15 ∈ pw_T := pw_in (pt_5 (List.mem_of_getElem? (i := 79) (by rfl))) (by rfl)
theorem lay_X10_16 : u_lay RX10 TX10 16 ∈ pw_T := pw_in (pt_5 (List.mem_of_getElem? (i := 81) (by rfl))) (by rfl)
theorem lay_X10_17 : u_lay RX10 TX10 17 ∈ pw_T := pw_in (pt_5 (List.mem_of_getElem? (i := 83) (by rfl))) (by rfl)
theorem lay_X10_18 : u_lay RX10 TX10 18 ∈ pw_T := pw_in (pt_5 (List.mem_of_getElem? (i := 85) (by rfl))) (by rfl)
theorem lay_X10_19 : u_lay RX10 TX10 19 ∈ pw_T := pw_in (pt_5 (List.mem_of_getElem? (i := 87) (by rfl))) (by rfl)
theorem lay_X10_20 : u_lay RX10 TX10 20 ∈ pw_T := pw_in (pt_5 (List.mem_of_getElem? (i := 89) (by rfl))) (by rfl)
theorem lay_X10_21 : u_lay RX10 TX10 21 ∈ pw_T := pw_in (pt_5 (List.mem_of_getElem? (i := 91) (by rfl))) (by rfl)
theorem lay_X10_22 : u_lay RX10 TX10 22 ∈ pw_T := pw_in (pt_5 (List.mem_of_getElem? (i := 93) (by rfl))) (by rfl)
theorem lay_X10_23 : u_lay RX10 TX10 23 ∈ pw_T := pw_in (pt_5 (List.mem_of_getElem? (i := 95) (by rfl))) (by rfl)
theorem lay_X10_24 : u_lay RX10 TX10 24 ∈ pw_T := pw_in (pt_5 (List.mem_of_getElem? (i := 97) (by rfl))) (by rfl)
theorem lay_X10_25 : u_lay RX10 TX10 25 ∈ pw_T := pw_in (pt_5 (List.mem_of_getElem? (i := 99) (by rfl))) (by rfl)
theorem lay_X10_26 : u_lay RX10 TX10 26 ∈ pw_T := pw_in (pt_5 (List.mem_of_getElem? (i := 101) (by rfl))) (by rfl)
theorem lay_X10_27 : u_lay RX10 TX10 27 ∈ pw_T := pw_in (pt_5 (List.mem_of_getElem? (i := 103) (by rfl))) (by rfl)
theorem lay_X10_28 : u_lay RX10 TX10 28 ∈ pw_T := pw_in (pt_5 (List.mem_of_getElem? (i := 105) (by rfl))) (by rfl)
theorem lay_X10_29 : u_lay RX10 TX10 29 ∈ pw_T := pw_in (pt_5 (List.mem_of_getElem? (i := 107) (by rfl))) (by rfl)
theorem lay_X10_30 : u_lay RX10 TX10 30 ∈ pw_T := pw_in (pt_5 (List.mem_of_getElem? (i := 109) (by rfl))) (by rfl)
theorem lay_X10_31 : u_lay RX10 TX10 31 ∈ pw_T := pw_in (pt_5 (List.mem_of_getElem? (i := 111) (by rfl))) (by rfl)
theorem lay_X10_32 : u_lay RX10 TX10 32 ∈ pw_T := pw_in (pt_5 (List.mem_of_getElem? (i := 113) (by rfl))) (by rfl)
theorem lay_X10_33 : u_lay RX10 TX10 33 ∈ pw_T := pw_in (pt_5 (List.mem_of_getElem? (i := 115) (by rfl))) (by rfl)
theorem lay_X10_34 : u_lay RX10 TX10 34 ∈ pw_T := pw_in (pt_5 (List.mem_of_getElem? (i := 117) (by rfl))) (by rfl)
theorem lay_X10_35 : u_lay RX10 TX10 35 ∈ pw_T := pw_in (pt_5 (List.mem_of_getElem? (i := 119) (by rfl))) (by rfl)
theorem lay_X10_36 : u_lay RX10 TX10 36 ∈ pw_T := pw_in (pt_5 (List.mem_of_getElem? (i := 121) (by rfl))) (by rfl)
theorem lay_X10_37 : u_lay RX10 TX10 37 ∈ pw_T := pw_in (pt_5 (List.mem_of_getElem? (i := 123) (by rfl))) (by rfl)
theorem lay_X10_38 : u_lay RX10 TX10 38 ∈ pw_T := pw_in (pt_5 (List.mem_of_getElem? (i := 125) (by rfl))) (by rfl)
theorem lay_X10_39 : u_lay RX10 TX10 39 ∈ pw_T := pw_in (pt_5 (List.mem_of_getElem? (i := 127) (by rfl))) (by rfl)
theorem lay_X10_40 : u_lay RX10 TX10 40 ∈ pw_T := pw_in (pt_5 (List.mem_of_getElem? (i := 129) (by rfl))) (by rfl)
theorem lay_X10_41 : u_lay RX10 TX10 41 ∈ pw_T := pw_in (pt_5 (List.mem_of_getElem? (i := 131) (by rfl))) (by rfl)
theorem lay_X10_42 : u_lay RX10 TX10 42 ∈ pw_T := pw_in (pt_5 (List.mem_of_getElem? (i := 133) (by rfl))) (by rfl)
theorem lay_X10_43 : u_lay RX10 TX10 43 ∈ pw_T := pw_in (pt_5 (List.mem_of_getElem? (i := 135) (by rfl))) (by rfl)
theorem lay_X10_44 : u_lay RX10 TX10 44 ∈ pw_T := pw_in (pt_5 (List.mem_of_getElem? (i := 137) (by rfl))) (by rfl)
theorem lay_X10_45 : u_lay RX10 TX10 45 ∈ pw_T := pw_in (pt_5 (List.mem_of_getElem? (i := 139) (by rfl))) (by rfl)
theorem lay_X10_46 : u_lay RX10 TX10 46 ∈ pw_T := pw_in (pt_5 (List.mem_of_getElem? (i := 141) (by rfl))) (by rfl)
theorem lay_X10_47 : u_lay RX10 TX10 47 ∈ pw_T := pw_in (pt_5 (List.mem_of_getElem? (i := 143) (by rfl))) (by rfl)
theorem lay_X10_48 : u_lay RX10 TX10 48 ∈ pw_T := pw_in (pt_5 (List.mem_of_getElem? (i := 145) (by rfl))) (by rfl)
theorem lay_X10_49 : u_lay RX10 TX10 49 ∈ pw_T := pw_in (pt_5 (List.mem_of_getElem? (i := 147) (by rfl))) (by rfl)
theorem lay_X10_50 : u_lay RX10 TX10 50 ∈ pw_T := pw_in (pt_5 (List.mem_of_getElem? (i := 149) (by rfl))) (by rfl)
theorem lay_X10_51 : u_lay RX10 TX10 51 ∈ pw_T := pw_in (pt_5 (List.mem_of_getElem? (i := 151) (by rfl))) (by rfl)
theorem lay_X10_52 : u_lay RX10 TX10 52 ∈ pw_T := pw_in (pt_5 (List.mem_of_getElem? (i := 153) (by rfl))) (by rfl)
theorem lay_X10_53 : u_lay RX10 TX10 53 ∈ pw_T := pw_in (pt_5 (List.mem_of_getElem? (i := 155) (by rfl))) (by rfl)
theorem lay_X10_54 : u_lay RX10 TX10 54 ∈ pw_T := pw_in (pt_5 (List.mem_of_getElem? (i := 157) (by rfl))) (by rfl)
theorem lay_X10_55 : u_lay RX10 TX10 55 ∈ pw_T := pw_in (pt_5 (List.mem_of_getElem? (i := 159) (by rfl))) (by rfl)
theorem lay_X10_56 : u_lay RX10 TX10 56 ∈ pw_T := pw_in (pt_5 (List.mem_of_getElem? (i := 161) (by rfl))) (by rfl)
theorem lay_X10_57 : u_lay RX10 TX10 57 ∈ pw_T := pw_in (pt_5 (List.mem_of_getElem? (i := 163) (by rfl))) (by rfl)
theorem lay_X10_58 : u_lay RX10 TX10 58 ∈ pw_T := pw_in (pt_5 (List.mem_of_getElem? (i := 165) (by rfl))) (by rfl)
theorem lay_X10_59 : u_lay RX10 TX10 59 ∈ pw_T := pw_in (pt_5 (List.mem_of_getElem? (i := 167) (by rfl))) (by rfl)
theorem lay_X10_60 : u_lay RX10 TX10 60 ∈ pw_T := pw_in (pt_5 (List.mem_of_getElem? (i := 169) (by rfl))) (by rfl)
theorem lay_X10_61 : u_lay RX10 TX10 61 ∈ pw_T := pw_in (pt_5 (List.mem_of_getElem? (i := 171) (by rfl))) (by rfl)
theorem lay_X10_62 : u_lay RX10 TX10 62 ∈ pw_T := pw_in (pt_5 (List.mem_of_getElem? (i := 173) (by rfl))) (by rfl)
theorem lay_X10_63 : u_lay RX10 TX10 63 ∈ pw_T := pw_in (pt_5 (List.mem_of_getElem? (i := 175) (by rfl))) (by rfl)
theorem lay_X10_64 : u_lay RX10 TX10 64 ∈ pw_T := pw_in (pt_5 (List.mem_of_getElem? (i := 177) (by rfl))) (by rfl)
theorem lay_X10_65 : u_lay RX10 TX10 65 ∈ pw_T := pw_in (pt_5 (List.mem_of_getElem? (i := 179) (by rfl))) (by rfl)
theorem lay_X10_66 : u_lay RX10 TX10 66 ∈ pw_T := pw_in (pt_5 (List.mem_of_getElem? (i := 181) (by rfl))) (by rfl)
theorem lay_X10_67 : u_lay RX10 TX10 67 ∈ pw_T := pw_in (pt_5 (List.mem_of_getElem? (i := 183) (by rfl))) (by rfl)
theorem lay_X10_68 : u_lay RX10 TX10 68 ∈ pw_T := pw_in (pt_5 (List.mem_of_getElem? (i := 185) (by rfl))) (by rfl)
theorem lay_X10_69 : u_lay RX10 TX10 69 ∈ pw_T := pw_in (pt_5 (List.mem_of_getElem? (i := 187) (by rfl))) (by rfl)
theorem cl_X10 : pw_CL 10 (RX10, TX10, 70) tyX10 := ⟨rfl, pw_wsK 70 (pw_ltS (pw_ltS (pw_ltS (pw_ltS (pw_ltS (pw_ltS (pw_ltS (pw_ltS (pw_ltS (pw_ltS (pw_ltS (pw_ltS (pw_ltS (pw_ltS (pw_ltS (pw_ltS (pw_ltS (pw_ltS (pw_ltS (pw_ltS (pw_ltS (pw_ltS (pw_ltS (pw_ltS (pw_ltS (pw_ltS (pw_ltS (pw_ltS (pw_ltS (pw_ltS (pw_ltS (pw_ltS (pw_ltS (pw_ltS (pw_ltS (pw_ltS (pw_ltS (pw_ltS (pw_ltS (pw_ltS (pw_ltS (pw_ltS (pw_ltS (pw_ltS (pw_ltS (pw_ltS (pw_ltS (pw_ltS (pw_ltS (pw_ltS (pw_ltS (pw_ltS (pw_ltS (pw_ltS (pw_ltS (pw_ltS (pw_ltS (pw_ltS (pw_ltS (pw_ltS (pw_ltS (pw_ltS (pw_ltS (pw_ltS (pw_ltS (pw_ltS (pw_ltS (pw_ltS (pw_ltS (pw_ltS (pw_lt0) lay_X10_0) lay_X10_1) lay_X10_2) lay_X10_3) lay_X10_4) lay_X10_5) lay_X10_6) lay_X10_7) lay_X10_8) lay_X10_9) lay_X10_10) lay_X10_11) lay_X10_12) lay_X10_13) lay_X10_14) lay_X10_15) lay_X10_16) lay_X10_17) lay_X10_18) lay_X10_19) lay_X10_20) lay_X10_21) lay_X10_22) lay_X10_23) lay_X10_24) lay_X10_25) lay_X10_26) lay_X10_27) lay_X10_28) lay_X10_29) lay_X10_30) lay_X10_31) lay_X10_32) lay_X10_33) lay_X10_34) lay_X10_35) lay_X10_36) lay_X10_37) lay_X10_38) lay_X10_39) lay_X10_40) lay_X10_41) lay_X10_42) lay_X10_43) lay_X10_44) lay_X10_45) lay_X10_46) lay_X10_47) lay_X10_48) lay_X10_49) lay_X10_50) lay_X10_51) lay_X10_52) lay_X10_53) lay_X10_54) lay_X10_55) lay_X10_56) lay_X10_57) lay_X10_58) lay_X10_59) lay_X10_60) lay_X10_61) lay_X10_62) lay_X10_63) lay_X10_64) lay_X10_65) lay_X10_66) lay_X10_67) lay_X10_68) lay_X10_69), tyX10_ok, nmX10⟩
theorem in_X10 : Cond.instantiable RX10 70 ∈ pw_T := pw_in (pt_4 (List.mem_of_getElem? (i := 188) (by rfl))) (by rfl)
theorem ii_X10 : Cond.initialized RX10 ∈ pw_T := pw_in (pt_1 (List.mem_of_getElem? (i := 16) (by rfl))) (by rfl)
theorem ob_i : Cond.instanceMethod objectInit ∈ pw_T := pw_in (pt_1 (List.mem_of_getElem? (i := 26) (by rfl))) (by rfl)
theorem ob_c : Cond.code objectInit ⟨#[0xb1]⟩ 1 none ∈ pw_T := pw_in (pt_1 (List.mem_of_getElem? (i := 27) (by rfl))) (by rfl)
theorem ar_int : Cond.arrayClass .int ∈ pw_T := pw_in (pt_1 (List.mem_of_getElem? (i := 176) (by rfl))) (by rfl)
theorem ar_long : Cond.arrayClass .long ∈ pw_T := pw_in (pt_1 (List.mem_of_getElem? (i := 177) (by rfl))) (by rfl)
theorem ar_char : Cond.arrayClass .char ∈ pw_T := pw_in (pt_1 (List.mem_of_getElem? (i := 231) (by rfl))) (by rfl)
theorem ar_boolean : Cond.arrayClass .boolean ∈ pw_T := pw_in (pt_5 (List.mem_of_getElem? (i := 190) (by rfl))) (by rfl)
theorem fl_J0_38 : Cond.fieldLink RJ0 38 RJ0 "COMPACT_STRINGS" "Z" ∈ pw_T := pw_in (pt_1 (List.mem_of_getElem? (i := 46) (by rfl))) (by rfl)
theorem fl_J0_1053 : Cond.fieldLink RJ0 1053 RJ3 "SIOOBE_FORMATTER" "Ljava/util/function/BiFunction;" ∈ pw_T := pw_in (pt_1 (List.mem_of_getElem? (i := 63) (by rfl))) (by rfl)
theorem fl_J2_44 : Cond.fieldLink RJ2 44 RJ2 "$assertionsDisabled" "Z" ∈ pw_T := pw_in (pt_1 (List.mem_of_getElem? (i := 81) (by rfl))) (by rfl)
theorem fl_J2_59 : Cond.fieldLink RJ2 59 RJ2 "HI_BYTE_SHIFT" "I" ∈ pw_T := pw_in (pt_1 (List.mem_of_getElem? (i := 83) (by rfl))) (by rfl)
theorem fl_J2_63 : Cond.fieldLink RJ2 63 RJ2 "LO_BYTE_SHIFT" "I" ∈ pw_T := pw_in (pt_1 (List.mem_of_getElem? (i := 85) (by rfl))) (by rfl)
theorem fl_X6_11 : Cond.fieldLink RX6 11 RX6 "left" "[J" ∈ pw_T := pw_in (pt_1 (List.mem_of_getElem? (i := 156) (by rfl))) (by rfl)
theorem fl_X6_15 : Cond.fieldLink RX6 15 RX6 "right" "[I" ∈ pw_T := pw_in (pt_1 (List.mem_of_getElem? (i := 157) (by rfl))) (by rfl)
theorem fl_X6_19 : Cond.fieldLink RX6 19 RX6 "height" "[I" ∈ pw_T := pw_in (pt_1 (List.mem_of_getElem? (i := 158) (by rfl))) (by rfl)
theorem fl_X6_22 : Cond.fieldLink RX6 22 RX6 "next" "[I" ∈ pw_T := pw_in (pt_1 (List.mem_of_getElem? (i := 159) (by rfl))) (by rfl)
theorem fl_X6_25 : Cond.fieldLink RX6 25 RX6 "buckets" "[I" ∈ pw_T := pw_in (pt_1 (List.mem_of_getElem? (i := 160) (by rfl))) (by rfl)
theorem fl_X6_67 : Cond.fieldLink RX6 67 RX6 "count" "I" ∈ pw_T := pw_in (pt_1 (List.mem_of_getElem? (i := 162) (by rfl))) (by rfl)
theorem fl_X5_29 : Cond.fieldLink RX5 29 RX5 "store" "LLispMachine$Store;" ∈ pw_T := pw_in (pt_1 (List.mem_of_getElem? (i := 185) (by rfl))) (by rfl)
theorem fl_X5_9 : Cond.fieldLink RX5 9 RX5 "text" "[C" ∈ pw_T := pw_in (pt_1 (List.mem_of_getElem? (i := 186) (by rfl))) (by rfl)
theorem fl_X5_33 : Cond.fieldLink RX5 33 RX5 "length" "I" ∈ pw_T := pw_in (pt_1 (List.mem_of_getElem? (i := 187) (by rfl))) (by rfl)
theorem fl_X5_36 : Cond.fieldLink RX5 36 RX5 "fault" "I" ∈ pw_T := pw_in (pt_1 (List.mem_of_getElem? (i := 189) (by rfl))) (by rfl)
theorem fl_X5_15 : Cond.fieldLink RX5 15 RX5 "place" "I" ∈ pw_T := pw_in (pt_1 (List.mem_of_getElem? (i := 191) (by rfl))) (by rfl)
theorem fl_X5_19 : Cond.fieldLink RX5 19 RX5 "items" "[I" ∈ pw_T := pw_in (pt_1 (List.mem_of_getElem? (i := 193) (by rfl))) (by rfl)
theorem fl_X5_39 : Cond.fieldLink RX5 39 RX5 "itemCount" "I" ∈ pw_T := pw_in (pt_1 (List.mem_of_getElem? (i := 194) (by rfl))) (by rfl)
theorem fl_X5_23 : Cond.fieldLink RX5 23 RX5 "firstItem" "[I" ∈ pw_T := pw_in (pt_1 (List.mem_of_getElem? (i := 195) (by rfl))) (by rfl)
theorem fl_X5_26 : Cond.fieldLink RX5 26 RX5 "awaited" "[I" ∈ pw_T := pw_in (pt_1 (List.mem_of_getElem? (i := 196) (by rfl))) (by rfl)
theorem fl_X5_42 : Cond.fieldLink RX5 42 RX5 "open" "I" ∈ pw_T := pw_in (pt_1 (List.mem_of_getElem? (i := 197) (by rfl))) (by rfl)
theorem fl_X5_45 : Cond.fieldLink RX5 45 RX5 "words" "I" ∈ pw_T := pw_in (pt_1 (List.mem_of_getElem? (i := 198) (by rfl))) (by rfl)
theorem fl_X5_84 : Cond.fieldLink RX5 84 RX5 "digitsAlone" "Z" ∈ pw_T := pw_in (pt_1 (List.mem_of_getElem? (i := 199) (by rfl))) (by rfl)
theorem fl_X5_88 : Cond.fieldLink RX5 88 RX5 "amount" "J" ∈ pw_T := pw_in (pt_1 (List.mem_of_getElem? (i := 200) (by rfl))) (by rfl)
theorem fl_X5_92 : Cond.fieldLink RX5 92 RX5 "spelling" "J" ∈ pw_T := pw_in (pt_1 (List.mem_of_getElem? (i := 201) (by rfl))) (by rfl)
theorem fl_X7_19 : Cond.fieldLink RX7 19 RX7 "store" "LLispMachine$Store;" ∈ pw_T := pw_in (pt_1 (List.mem_of_getElem? (i := 238) (by rfl))) (by rfl)
theorem fl_X7_9 : Cond.fieldLink RX7 9 RX7 "out" "[C" ∈ pw_T := pw_in (pt_1 (List.mem_of_getElem? (i := 239) (by rfl))) (by rfl)
theorem fl_X7_23 : Cond.fieldLink RX7 23 RX7 "length" "I" ∈ pw_T := pw_in (pt_2 (List.mem_of_getElem? (i := 0) (by rfl))) (by rfl)
theorem fl_X7_15 : Cond.fieldLink RX7 15 RX7 "rests" "[I" ∈ pw_T := pw_in (pt_2 (List.mem_of_getElem? (i := 2) (by rfl))) (by rfl)
theorem fl_X7_27 : Cond.fieldLink RX7 27 RX7 "open" "I" ∈ pw_T := pw_in (pt_2 (List.mem_of_getElem? (i := 3) (by rfl))) (by rfl)
theorem fl_X4_11 : Cond.fieldLink RX4 11 RX4 "table" "[LLispMachine$Definition;" ∈ pw_T := pw_in (pt_2 (List.mem_of_getElem? (i := 23) (by rfl))) (by rfl)
theorem fl_X4_17 : Cond.fieldLink RX4 17 RX4 "count" "I" ∈ pw_T := pw_in (pt_2 (List.mem_of_getElem? (i := 24) (by rfl))) (by rfl)
theorem fl_X3_21 : Cond.fieldLink RX3 21 RX3 "store" "LLispMachine$Store;" ∈ pw_T := pw_in (pt_2 (List.mem_of_getElem? (i := 40) (by rfl))) (by rfl)
theorem fl_X3_25 : Cond.fieldLink RX3 25 RX3 "functions" "LLispMachine$Functions;" ∈ pw_T := pw_in (pt_2 (List.mem_of_getElem? (i := 41) (by rfl))) (by rfl)
theorem fl_X3_13 : Cond.fieldLink RX3 13 RX3 "calls" "[LLispMachine$Call;" ∈ pw_T := pw_in (pt_2 (List.mem_of_getElem? (i := 42) (by rfl))) (by rfl)
theorem fl_X3_35 : Cond.fieldLink RX3 35 RX3 "open" "I" ∈ pw_T := pw_in (pt_2 (List.mem_of_getElem? (i := 43) (by rfl))) (by rfl)
theorem fl_X3_17 : Cond.fieldLink RX3 17 RX3 "fuel" "I" ∈ pw_T := pw_in (pt_2 (List.mem_of_getElem? (i := 44) (by rfl))) (by rfl)
theorem fl_X3_29 : Cond.fieldLink RX3 29 RX3 "steps" "I" ∈ pw_T := pw_in (pt_2 (List.mem_of_getElem? (i := 46) (by rfl))) (by rfl)
theorem fl_X3_32 : Cond.fieldLink RX3 32 RX3 "fault" "I" ∈ pw_T := pw_in (pt_2 (List.mem_of_getElem? (i := 48) (by rfl))) (by rfl)
theorem fl_X3_38 : Cond.fieldLink RX3 38 RX3 "bindings" "I" ∈ pw_T := pw_in (pt_2 (List.mem_of_getElem? (i := 51) (by rfl))) (by rfl)
theorem fl_X3_63 : Cond.fieldLink RX3 63 RX3 "move" "I" ∈ pw_T := pw_in (pt_2 (List.mem_of_getElem? (i := 52) (by rfl))) (by rfl)
theorem fl_X3_107 : Cond.fieldLink RX3 107 RX3 "term" "I" ∈ pw_T := pw_in (pt_2 (List.mem_of_getElem? (i := 53) (by rfl))) (by rfl)
theorem fl_X3_45 : Cond.fieldLink RX3 45 RX3 "scope" "LLispMachine$Call;" ∈ pw_T := pw_in (pt_2 (List.mem_of_getElem? (i := 54) (by rfl))) (by rfl)
theorem fl_X3_69 : Cond.fieldLink RX3 69 RX3 "value" "I" ∈ pw_T := pw_in (pt_2 (List.mem_of_getElem? (i := 55) (by rfl))) (by rfl)
theorem fl_X8_15 : Cond.fieldLink RX8 15 RX8 "store" "LLispMachine$Store;" ∈ pw_T := pw_in (pt_2 (List.mem_of_getElem? (i := 93) (by rfl))) (by rfl)
theorem fl_X8_19 : Cond.fieldLink RX8 19 RX8 "functions" "LLispMachine$Functions;" ∈ pw_T := pw_in (pt_2 (List.mem_of_getElem? (i := 94) (by rfl))) (by rfl)
theorem fl_X8_9 : Cond.fieldLink RX8 9 RX8 "parts" "[I" ∈ pw_T := pw_in (pt_2 (List.mem_of_getElem? (i := 95) (by rfl))) (by rfl)
theorem fl_X8_27 : Cond.fieldLink RX8 27 RX8 "count" "I" ∈ pw_T := pw_in (pt_2 (List.mem_of_getElem? (i := 96) (by rfl))) (by rfl)
theorem fl_X1_9 : Cond.fieldLink RX1 9 RX1 "store" "LLispMachine$Store;" ∈ pw_T := pw_in (pt_2 (List.mem_of_getElem? (i := 106) (by rfl))) (by rfl)
theorem fl_X1_15 : Cond.fieldLink RX1 15 RX1 "functions" "LLispMachine$Functions;" ∈ pw_T := pw_in (pt_2 (List.mem_of_getElem? (i := 107) (by rfl))) (by rfl)
theorem fl_X1_19 : Cond.fieldLink RX1 19 RX1 "evaluator" "LLispMachine$Evaluator;" ∈ pw_T := pw_in (pt_2 (List.mem_of_getElem? (i := 108) (by rfl))) (by rfl)
theorem fl_X1_28 : Cond.fieldLink RX1 28 RX1 "terms" "LLispMachine$Terms;" ∈ pw_T := pw_in (pt_2 (List.mem_of_getElem? (i := 109) (by rfl))) (by rfl)
theorem fl_X1_57 : Cond.fieldLink RX1 57 RX1 "result" "I" ∈ pw_T := pw_in (pt_2 (List.mem_of_getElem? (i := 110) (by rfl))) (by rfl)
theorem fl_X1_38 : Cond.fieldLink RX1 38 RX1 "kept" "I" ∈ pw_T := pw_in (pt_2 (List.mem_of_getElem? (i := 112) (by rfl))) (by rfl)
theorem fl_X9_9 : Cond.fieldLink RX9 9 RX9 "waiting" "[I" ∈ pw_T := pw_in (pt_2 (List.mem_of_getElem? (i := 127) (by rfl))) (by rfl)
theorem fl_X9_16 : Cond.fieldLink RX9 16 RX9 "store" "LLispMachine$Store;" ∈ pw_T := pw_in (pt_2 (List.mem_of_getElem? (i := 128) (by rfl))) (by rfl)
theorem fl_X9_25 : Cond.fieldLink RX9 25 RX9 "reader" "LLispMachine$Reader;" ∈ pw_T := pw_in (pt_2 (List.mem_of_getElem? (i := 129) (by rfl))) (by rfl)
theorem fl_X9_32 : Cond.fieldLink RX9 32 RX9 "teller" "LLispMachine$Teller;" ∈ pw_T := pw_in (pt_2 (List.mem_of_getElem? (i := 130) (by rfl))) (by rfl)
theorem fl_X9_39 : Cond.fieldLink RX9 39 RX9 "functions" "LLispMachine$Functions;" ∈ pw_T := pw_in (pt_2 (List.mem_of_getElem? (i := 131) (by rfl))) (by rfl)
theorem fl_X9_48 : Cond.fieldLink RX9 48 RX9 "evaluator" "LLispMachine$Evaluator;" ∈ pw_T := pw_in (pt_2 (List.mem_of_getElem? (i := 132) (by rfl))) (by rfl)
theorem fl_X9_57 : Cond.fieldLink RX9 57 RX9 "commands" "LLispMachine$Commands;" ∈ pw_T := pw_in (pt_2 (List.mem_of_getElem? (i := 133) (by rfl))) (by rfl)
theorem fl_X0_9 : Cond.fieldLink RX0 9 RX0 "values" "[I" ∈ pw_T := pw_in (pt_3 (List.mem_of_getElem? (i := 162) (by rfl))) (by rfl)
theorem fl_X0_30 : Cond.fieldLink RX0 30 RX0 "valueCount" "I" ∈ pw_T := pw_in (pt_3 (List.mem_of_getElem? (i := 164) (by rfl))) (by rfl)
theorem fl_X0_15 : Cond.fieldLink RX0 15 RX0 "name" "I" ∈ pw_T := pw_in (pt_3 (List.mem_of_getElem? (i := 165) (by rfl))) (by rfl)
theorem fl_X0_19 : Cond.fieldLink RX0 19 RX0 "definition" "LLispMachine$Definition;" ∈ pw_T := pw_in (pt_3 (List.mem_of_getElem? (i := 167) (by rfl))) (by rfl)
theorem fl_X0_23 : Cond.fieldLink RX0 23 RX0 "termsLeft" "I" ∈ pw_T := pw_in (pt_3 (List.mem_of_getElem? (i := 169) (by rfl))) (by rfl)
theorem fl_X0_26 : Cond.fieldLink RX0 26 RX0 "scope" "LLispMachine$Call;" ∈ pw_T := pw_in (pt_3 (List.mem_of_getElem? (i := 171) (by rfl))) (by rfl)
theorem fl_X0_33 : Cond.fieldLink RX0 33 RX0 "entered" "Z" ∈ pw_T := pw_in (pt_3 (List.mem_of_getElem? (i := 173) (by rfl))) (by rfl)
theorem fl_X2_7 : Cond.fieldLink RX2 7 RX2 "name" "I" ∈ pw_T := pw_in (pt_4 (List.mem_of_getElem? (i := 39) (by rfl))) (by rfl)
theorem fl_X2_13 : Cond.fieldLink RX2 13 RX2 "takes" "I" ∈ pw_T := pw_in (pt_4 (List.mem_of_getElem? (i := 43) (by rfl))) (by rfl)
theorem fl_X2_16 : Cond.fieldLink RX2 16 RX2 "parameters" "I" ∈ pw_T := pw_in (pt_4 (List.mem_of_getElem? (i := 46) (by rfl))) (by rfl)
theorem fl_X2_19 : Cond.fieldLink RX2 19 RX2 "body" "I" ∈ pw_T := pw_in (pt_4 (List.mem_of_getElem? (i := 49) (by rfl))) (by rfl)
theorem fl_X10_8 : Cond.fieldLink RX10 8 RX10 "left" "[I" ∈ pw_T := pw_in (pt_4 (List.mem_of_getElem? (i := 219) (by rfl))) (by rfl)
theorem fl_X10_14 : Cond.fieldLink RX10 14 RX10 "right" "[I" ∈ pw_T := pw_in (pt_4 (List.mem_of_getElem? (i := 220) (by rfl))) (by rfl)
theorem fl_X10_17 : Cond.fieldLink RX10 17 RX10 "next" "[I" ∈ pw_T := pw_in (pt_4 (List.mem_of_getElem? (i := 221) (by rfl))) (by rfl)
theorem fl_X10_20 : Cond.fieldLink RX10 20 RX10 "sizes" "[I" ∈ pw_T := pw_in (pt_4 (List.mem_of_getElem? (i := 222) (by rfl))) (by rfl)
theorem fl_X10_23 : Cond.fieldLink RX10 23 RX10 "heights" "[I" ∈ pw_T := pw_in (pt_4 (List.mem_of_getElem? (i := 223) (by rfl))) (by rfl)
theorem fl_X10_26 : Cond.fieldLink RX10 26 RX10 "number" "[J" ∈ pw_T := pw_in (pt_4 (List.mem_of_getElem? (i := 224) (by rfl))) (by rfl)
theorem fl_X10_30 : Cond.fieldLink RX10 30 RX10 "heads" "[I" ∈ pw_T := pw_in (pt_4 (List.mem_of_getElem? (i := 225) (by rfl))) (by rfl)
theorem fl_X10_165 : Cond.fieldLink RX10 165 RX10 "objects" "I" ∈ pw_T := pw_in (pt_4 (List.mem_of_getElem? (i := 226) (by rfl))) (by rfl)
theorem fl_X10_34 : Cond.fieldLink RX10 34 RX10 "names" "[I" ∈ pw_T := pw_in (pt_4 (List.mem_of_getElem? (i := 227) (by rfl))) (by rfl)
theorem fl_X10_37 : Cond.fieldLink RX10 37 RX10 "lengths" "[I" ∈ pw_T := pw_in (pt_4 (List.mem_of_getElem? (i := 228) (by rfl))) (by rfl)
theorem fl_X10_176 : Cond.fieldLink RX10 176 RX10 "symbols" "I" ∈ pw_T := pw_in (pt_4 (List.mem_of_getElem? (i := 229) (by rfl))) (by rfl)
theorem fl_X10_40 : Cond.fieldLink RX10 40 RX10 "waiting" "[I" ∈ pw_T := pw_in (pt_4 (List.mem_of_getElem? (i := 230) (by rfl))) (by rfl)
theorem fl_X10_43 : Cond.fieldLink RX10 43 RX10 "text" "[I" ∈ pw_T := pw_in (pt_4 (List.mem_of_getElem? (i := 231) (by rfl))) (by rfl)
theorem fl_X10_204 : Cond.fieldLink RX10 204 RX10 "textSize" "I" ∈ pw_T := pw_in (pt_4 (List.mem_of_getElem? (i := 232) (by rfl))) (by rfl)
theorem fl_X10_46 : Cond.fieldLink RX10 46 RX10 "out" "[I" ∈ pw_T := pw_in (pt_4 (List.mem_of_getElem? (i := 233) (by rfl))) (by rfl)
theorem fl_X10_265 : Cond.fieldLink RX10 265 RX10 "outSize" "I" ∈ pw_T := pw_in (pt_4 (List.mem_of_getElem? (i := 234) (by rfl))) (by rfl)
theorem fl_X10_49 : Cond.fieldLink RX10 49 RX10 "word" "[I" ∈ pw_T := pw_in (pt_4 (List.mem_of_getElem? (i := 235) (by rfl))) (by rfl)
theorem fl_X10_145 : Cond.fieldLink RX10 145 RX10 "wordSize" "I" ∈ pw_T := pw_in (pt_4 (List.mem_of_getElem? (i := 236) (by rfl))) (by rfl)
theorem fl_X10_52 : Cond.fieldLink RX10 52 RX10 "tellWhat" "[I" ∈ pw_T := pw_in (pt_4 (List.mem_of_getElem? (i := 237) (by rfl))) (by rfl)
theorem fl_X10_274 : Cond.fieldLink RX10 274 RX10 "telling" "I" ∈ pw_T := pw_in (pt_4 (List.mem_of_getElem? (i := 238) (by rfl))) (by rfl)
theorem fl_X10_201 : Cond.fieldLink RX10 201 RX10 "at" "I" ∈ pw_T := pw_in (pt_4 (List.mem_of_getElem? (i := 239) (by rfl))) (by rfl)
theorem fl_X10_207 : Cond.fieldLink RX10 207 RX10 "readFault" "I" ∈ pw_T := pw_in (pt_5 (List.mem_of_getElem? (i := 0) (by rfl))) (by rfl)
theorem fl_X10_55 : Cond.fieldLink RX10 55 RX10 "readPlace" "I" ∈ pw_T := pw_in (pt_5 (List.mem_of_getElem? (i := 1) (by rfl))) (by rfl)
theorem fl_X10_59 : Cond.fieldLink RX10 59 RX10 "openSort" "[I" ∈ pw_T := pw_in (pt_5 (List.mem_of_getElem? (i := 2) (by rfl))) (by rfl)
theorem fl_X10_62 : Cond.fieldLink RX10 62 RX10 "openFrom" "[I" ∈ pw_T := pw_in (pt_5 (List.mem_of_getElem? (i := 3) (by rfl))) (by rfl)
theorem fl_X10_65 : Cond.fieldLink RX10 65 RX10 "openState" "[I" ∈ pw_T := pw_in (pt_5 (List.mem_of_getElem? (i := 4) (by rfl))) (by rfl)
theorem fl_X10_68 : Cond.fieldLink RX10 68 RX10 "openLast" "[I" ∈ pw_T := pw_in (pt_5 (List.mem_of_getElem? (i := 5) (by rfl))) (by rfl)
theorem fl_X10_210 : Cond.fieldLink RX10 210 RX10 "open" "I" ∈ pw_T := pw_in (pt_5 (List.mem_of_getElem? (i := 6) (by rfl))) (by rfl)
theorem fl_X10_71 : Cond.fieldLink RX10 71 RX10 "items" "[I" ∈ pw_T := pw_in (pt_5 (List.mem_of_getElem? (i := 7) (by rfl))) (by rfl)
theorem fl_X10_217 : Cond.fieldLink RX10 217 RX10 "itemSize" "I" ∈ pw_T := pw_in (pt_5 (List.mem_of_getElem? (i := 8) (by rfl))) (by rfl)
theorem fl_X10_220 : Cond.fieldLink RX10 220 RX10 "whole" "I" ∈ pw_T := pw_in (pt_5 (List.mem_of_getElem? (i := 9) (by rfl))) (by rfl)
theorem fl_X10_213 : Cond.fieldLink RX10 213 RX10 "done" "Z" ∈ pw_T := pw_in (pt_5 (List.mem_of_getElem? (i := 10) (by rfl))) (by rfl)
theorem fl_X10_295 : Cond.fieldLink RX10 295 RX10 "defs" "I" ∈ pw_T := pw_in (pt_5 (List.mem_of_getElem? (i := 11) (by rfl))) (by rfl)
theorem fl_X10_74 : Cond.fieldLink RX10 74 RX10 "defName" "[I" ∈ pw_T := pw_in (pt_5 (List.mem_of_getElem? (i := 12) (by rfl))) (by rfl)
theorem fl_X10_77 : Cond.fieldLink RX10 77 RX10 "defMany" "[I" ∈ pw_T := pw_in (pt_5 (List.mem_of_getElem? (i := 13) (by rfl))) (by rfl)
theorem fl_X10_80 : Cond.fieldLink RX10 80 RX10 "defVariable" "[I" ∈ pw_T := pw_in (pt_5 (List.mem_of_getElem? (i := 14) (by rfl))) (by rfl)
theorem fl_X10_83 : Cond.fieldLink RX10 83 RX10 "defBody" "[I" ∈ pw_T := pw_in (pt_5 (List.mem_of_getElem? (i := 15) (by rfl))) (by rfl)
theorem fl_X10_86 : Cond.fieldLink RX10 86 RX10 "comingName" "I" ∈ pw_T := pw_in (pt_5 (List.mem_of_getElem? (i := 16) (by rfl))) (by rfl)
theorem fl_X10_298 : Cond.fieldLink RX10 298 RX10 "comingMany" "I" ∈ pw_T := pw_in (pt_5 (List.mem_of_getElem? (i := 17) (by rfl))) (by rfl)
theorem fl_X10_89 : Cond.fieldLink RX10 89 RX10 "fuel" "I" ∈ pw_T := pw_in (pt_5 (List.mem_of_getElem? (i := 18) (by rfl))) (by rfl)
theorem fl_X10_380 : Cond.fieldLink RX10 380 RX10 "steps" "I" ∈ pw_T := pw_in (pt_5 (List.mem_of_getElem? (i := 19) (by rfl))) (by rfl)
theorem fl_X10_301 : Cond.fieldLink RX10 301 RX10 "work" "I" ∈ pw_T := pw_in (pt_5 (List.mem_of_getElem? (i := 20) (by rfl))) (by rfl)
theorem fl_X10_92 : Cond.fieldLink RX10 92 RX10 "callOf" "[I" ∈ pw_T := pw_in (pt_5 (List.mem_of_getElem? (i := 21) (by rfl))) (by rfl)
theorem fl_X10_95 : Cond.fieldLink RX10 95 RX10 "restOf" "[I" ∈ pw_T := pw_in (pt_5 (List.mem_of_getElem? (i := 22) (by rfl))) (by rfl)
theorem fl_X10_98 : Cond.fieldLink RX10 98 RX10 "fromOf" "[I" ∈ pw_T := pw_in (pt_5 (List.mem_of_getElem? (i := 23) (by rfl))) (by rfl)
theorem fl_X10_313 : Cond.fieldLink RX10 313 RX10 "calls" "I" ∈ pw_T := pw_in (pt_5 (List.mem_of_getElem? (i := 24) (by rfl))) (by rfl)
theorem fl_X10_101 : Cond.fieldLink RX10 101 RX10 "built" "[I" ∈ pw_T := pw_in (pt_5 (List.mem_of_getElem? (i := 25) (by rfl))) (by rfl)
theorem fl_X10_307 : Cond.fieldLink RX10 307 RX10 "builtSize" "I" ∈ pw_T := pw_in (pt_5 (List.mem_of_getElem? (i := 26) (by rfl))) (by rfl)
theorem fl_X10_104 : Cond.fieldLink RX10 104 RX10 "walk" "[I" ∈ pw_T := pw_in (pt_5 (List.mem_of_getElem? (i := 27) (by rfl))) (by rfl)
theorem fl_X10_340 : Cond.fieldLink RX10 340 RX10 "walking" "I" ∈ pw_T := pw_in (pt_5 (List.mem_of_getElem? (i := 28) (by rfl))) (by rfl)
theorem fl_X10_107 : Cond.fieldLink RX10 107 RX10 "its" "[I" ∈ pw_T := pw_in (pt_5 (List.mem_of_getElem? (i := 29) (by rfl))) (by rfl)
theorem fl_X10_353 : Cond.fieldLink RX10 353 RX10 "itsMany" "I" ∈ pw_T := pw_in (pt_5 (List.mem_of_getElem? (i := 30) (by rfl))) (by rfl)
theorem fl_X10_110 : Cond.fieldLink RX10 110 RX10 "topVariable" "[I" ∈ pw_T := pw_in (pt_5 (List.mem_of_getElem? (i := 31) (by rfl))) (by rfl)
theorem fl_X10_113 : Cond.fieldLink RX10 113 RX10 "topValue" "[I" ∈ pw_T := pw_in (pt_5 (List.mem_of_getElem? (i := 32) (by rfl))) (by rfl)
theorem fl_X10_439 : Cond.fieldLink RX10 439 RX10 "tops" "I" ∈ pw_T := pw_in (pt_5 (List.mem_of_getElem? (i := 33) (by rfl))) (by rfl)
theorem fl_X10_116 : Cond.fieldLink RX10 116 RX10 "evalTerm" "[I" ∈ pw_T := pw_in (pt_5 (List.mem_of_getElem? (i := 34) (by rfl))) (by rfl)
theorem fl_X10_119 : Cond.fieldLink RX10 119 RX10 "evalRest" "[I" ∈ pw_T := pw_in (pt_5 (List.mem_of_getElem? (i := 35) (by rfl))) (by rfl)
theorem fl_X10_122 : Cond.fieldLink RX10 122 RX10 "evalFrom" "[I" ∈ pw_T := pw_in (pt_5 (List.mem_of_getElem? (i := 36) (by rfl))) (by rfl)
theorem fl_X10_125 : Cond.fieldLink RX10 125 RX10 "evalDef" "[I" ∈ pw_T := pw_in (pt_5 (List.mem_of_getElem? (i := 37) (by rfl))) (by rfl)
theorem fl_X10_128 : Cond.fieldLink RX10 128 RX10 "evalBase" "[I" ∈ pw_T := pw_in (pt_5 (List.mem_of_getElem? (i := 38) (by rfl))) (by rfl)
theorem fl_X10_131 : Cond.fieldLink RX10 131 RX10 "evalEnds" "[Z" ∈ pw_T := pw_in (pt_5 (List.mem_of_getElem? (i := 39) (by rfl))) (by rfl)
theorem fl_X10_371 : Cond.fieldLink RX10 371 RX10 "evals" "I" ∈ pw_T := pw_in (pt_5 (List.mem_of_getElem? (i := 40) (by rfl))) (by rfl)
theorem fl_X10_135 : Cond.fieldLink RX10 135 RX10 "value" "[I" ∈ pw_T := pw_in (pt_5 (List.mem_of_getElem? (i := 41) (by rfl))) (by rfl)
theorem fl_X10_383 : Cond.fieldLink RX10 383 RX10 "values" "I" ∈ pw_T := pw_in (pt_5 (List.mem_of_getElem? (i := 42) (by rfl))) (by rfl)
theorem fl_X10_377 : Cond.fieldLink RX10 377 RX10 "evalLimit" "I" ∈ pw_T := pw_in (pt_5 (List.mem_of_getElem? (i := 43) (by rfl))) (by rfl)
theorem fl_X10_374 : Cond.fieldLink RX10 374 RX10 "evalWhy" "I" ∈ pw_T := pw_in (pt_5 (List.mem_of_getElem? (i := 44) (by rfl))) (by rfl)
theorem fl_X10_359 : Cond.fieldLink RX10 359 RX10 "evalDone" "Z" ∈ pw_T := pw_in (pt_5 (List.mem_of_getElem? (i := 45) (by rfl))) (by rfl)
theorem fl_X10_368 : Cond.fieldLink RX10 368 RX10 "evalValue" "I" ∈ pw_T := pw_in (pt_5 (List.mem_of_getElem? (i := 46) (by rfl))) (by rfl)
theorem fl_X10_138 : Cond.fieldLink RX10 138 RX10 "mapped" "[I" ∈ pw_T := pw_in (pt_5 (List.mem_of_getElem? (i := 47) (by rfl))) (by rfl)
theorem fl_X10_451 : Cond.fieldLink RX10 451 RX10 "took" "Z" ∈ pw_T := pw_in (pt_5 (List.mem_of_getElem? (i := 48) (by rfl))) (by rfl)
theorem fl_J0_9 : Cond.fieldLink RJ0 9 RJ0 "value" "[B" ∈ pw_T := pw_in (pt_7 (List.mem_of_getElem? (i := 38) (by rfl))) (by rfl)
theorem fl_J0_15 : Cond.fieldLink RJ0 15 RJ0 "coder" "B" ∈ pw_T := pw_in (pt_7 (List.mem_of_getElem? (i := 39) (by rfl))) (by rfl)
theorem fn_X1_32 : Cond.fieldLinkNest RX1 32 RX6 "count" "I" RX9 ∈ pw_N := pw_inN (pt_1 (List.mem_of_getElem? (i := 161) (by rfl))) (by rfl)
theorem fn_X9_61 : Cond.fieldLinkNest RX9 61 RX5 "length" "I" RX9 ∈ pw_N := pw_inN (pt_1 (List.mem_of_getElem? (i := 188) (by rfl))) (by rfl)
theorem fn_X9_111 : Cond.fieldLinkNest RX9 111 RX5 "fault" "I" RX9 ∈ pw_N := pw_inN (pt_1 (List.mem_of_getElem? (i := 190) (by rfl))) (by rfl)
theorem fn_X9_114 : Cond.fieldLinkNest RX9 114 RX5 "place" "I" RX9 ∈ pw_N := pw_inN (pt_1 (List.mem_of_getElem? (i := 192) (by rfl))) (by rfl)
theorem fn_X9_124 : Cond.fieldLinkNest RX9 124 RX7 "length" "I" RX9 ∈ pw_N := pw_inN (pt_2 (List.mem_of_getElem? (i := 1) (by rfl))) (by rfl)
theorem fn_X9_121 : Cond.fieldLinkNest RX9 121 RX4 "count" "I" RX9 ∈ pw_N := pw_inN (pt_2 (List.mem_of_getElem? (i := 25) (by rfl))) (by rfl)
theorem fn_X1_164 : Cond.fieldLinkNest RX1 164 RX4 "count" "I" RX9 ∈ pw_N := pw_inN (pt_2 (List.mem_of_getElem? (i := 26) (by rfl))) (by rfl)
theorem fn_X9_75 : Cond.fieldLinkNest RX9 75 RX3 "fuel" "I" RX9 ∈ pw_N := pw_inN (pt_2 (List.mem_of_getElem? (i := 45) (by rfl))) (by rfl)
theorem fn_X9_118 : Cond.fieldLinkNest RX9 118 RX3 "steps" "I" RX9 ∈ pw_N := pw_inN (pt_2 (List.mem_of_getElem? (i := 47) (by rfl))) (by rfl)
theorem fn_X1_102 : Cond.fieldLinkNest RX1 102 RX3 "fault" "I" RX9 ∈ pw_N := pw_inN (pt_2 (List.mem_of_getElem? (i := 49) (by rfl))) (by rfl)
theorem fn_X9_117 : Cond.fieldLinkNest RX9 117 RX3 "fault" "I" RX9 ∈ pw_N := pw_inN (pt_2 (List.mem_of_getElem? (i := 50) (by rfl))) (by rfl)
theorem fn_X9_105 : Cond.fieldLinkNest RX9 105 RX1 "result" "I" RX9 ∈ pw_N := pw_inN (pt_2 (List.mem_of_getElem? (i := 111) (by rfl))) (by rfl)
theorem fn_X9_82 : Cond.fieldLinkNest RX9 82 RX1 "kept" "I" RX9 ∈ pw_N := pw_inN (pt_2 (List.mem_of_getElem? (i := 113) (by rfl))) (by rfl)
theorem fn_X8_82 : Cond.fieldLinkNest RX8 82 RX9 "BASE_TAKES" "[I" RX9 ∈ pw_N := pw_inN (pt_3 (List.mem_of_getElem? (i := 107) (by rfl))) (by rfl)
theorem fn_X3_129 : Cond.fieldLinkNest RX3 129 RX0 "values" "[I" RX9 ∈ pw_N := pw_inN (pt_3 (List.mem_of_getElem? (i := 163) (by rfl))) (by rfl)
theorem fn_X3_144 : Cond.fieldLinkNest RX3 144 RX0 "name" "I" RX9 ∈ pw_N := pw_inN (pt_3 (List.mem_of_getElem? (i := 166) (by rfl))) (by rfl)
theorem fn_X3_93 : Cond.fieldLinkNest RX3 93 RX0 "definition" "LLispMachine$Definition;" RX9 ∈ pw_N := pw_inN (pt_3 (List.mem_of_getElem? (i := 168) (by rfl))) (by rfl)
theorem fn_X3_76 : Cond.fieldLinkNest RX3 76 RX0 "termsLeft" "I" RX9 ∈ pw_N := pw_inN (pt_3 (List.mem_of_getElem? (i := 170) (by rfl))) (by rfl)
theorem fn_X3_89 : Cond.fieldLinkNest RX3 89 RX0 "scope" "LLispMachine$Call;" RX9 ∈ pw_N := pw_inN (pt_3 (List.mem_of_getElem? (i := 172) (by rfl))) (by rfl)
theorem fn_X3_97 : Cond.fieldLinkNest RX3 97 RX0 "entered" "Z" RX9 ∈ pw_N := pw_inN (pt_3 (List.mem_of_getElem? (i := 174) (by rfl))) (by rfl)
theorem fn_X4_21 : Cond.fieldLinkNest RX4 21 RX2 "name" "I" RX9 ∈ pw_N := pw_inN (pt_4 (List.mem_of_getElem? (i := 40) (by rfl))) (by rfl)
theorem fn_X3_49 : Cond.fieldLinkNest RX3 49 RX2 "name" "I" RX9 ∈ pw_N := pw_inN (pt_4 (List.mem_of_getElem? (i := 41) (by rfl))) (by rfl)
theorem fn_X1_168 : Cond.fieldLinkNest RX1 168 RX2 "name" "I" RX9 ∈ pw_N := pw_inN (pt_4 (List.mem_of_getElem? (i := 42) (by rfl))) (by rfl)
theorem fn_X1_128 : Cond.fieldLinkNest RX1 128 RX2 "takes" "I" RX9 ∈ pw_N := pw_inN (pt_4 (List.mem_of_getElem? (i := 44) (by rfl))) (by rfl)
theorem fn_X8_91 : Cond.fieldLinkNest RX8 91 RX2 "takes" "I" RX9 ∈ pw_N := pw_inN (pt_4 (List.mem_of_getElem? (i := 45) (by rfl))) (by rfl)
theorem fn_X3_126 : Cond.fieldLinkNest RX3 126 RX2 "parameters" "I" RX9 ∈ pw_N := pw_inN (pt_4 (List.mem_of_getElem? (i := 47) (by rfl))) (by rfl)
theorem fn_X1_155 : Cond.fieldLinkNest RX1 155 RX2 "parameters" "I" RX9 ∈ pw_N := pw_inN (pt_4 (List.mem_of_getElem? (i := 48) (by rfl))) (by rfl)
theorem fn_X3_101 : Cond.fieldLinkNest RX3 101 RX2 "body" "I" RX9 ∈ pw_N := pw_inN (pt_4 (List.mem_of_getElem? (i := 50) (by rfl))) (by rfl)
theorem fn_X1_158 : Cond.fieldLinkNest RX1 158 RX2 "body" "I" RX9 ∈ pw_N := pw_inN (pt_4 (List.mem_of_getElem? (i := 51) (by rfl))) (by rfl)
theorem ml_L_9 : Cond.methodLink RL 9 yX9_init ∈ pw_T := pw_in (pt_1 (List.mem_of_getElem? (i := 22) (by rfl))) (by rfl)
theorem ml_X9_1 : Cond.methodLink RX9 1 objectInit ∈ pw_T := pw_in (pt_1 (List.mem_of_getElem? (i := 25) (by rfl))) (by rfl)
theorem ml_X9_15 : Cond.methodLink RX9 15 yX6_init ∈ pw_T := pw_in (pt_1 (List.mem_of_getElem? (i := 30) (by rfl))) (by rfl)
theorem ml_X6_3 : Cond.methodLink RX6 3 objectInit ∈ pw_T := pw_in (pt_1 (List.mem_of_getElem? (i := 33) (by rfl))) (by rfl)
theorem ml_X6_28 : Cond.methodLink RX6 28 yJ7_fill_53178 ∈ pw_T := pw_in (pt_1 (List.mem_of_getElem? (i := 34) (by rfl))) (by rfl)
theorem ml_X6_36 : Cond.methodLink RX6 36 yJ0_length_8abf5 ∈ pw_T := pw_in (pt_1 (List.mem_of_getElem? (i := 38) (by rfl))) (by rfl)
theorem ml_J0_335 : Cond.methodLink RJ0 335 yJ0_coder_7d493 ∈ pw_T := pw_in (pt_1 (List.mem_of_getElem? (i := 42) (by rfl))) (by rfl)
theorem ml_X6_44 : Cond.methodLink RX6 44 yJ0_charAt_5068e ∈ pw_T := pw_in (pt_1 (List.mem_of_getElem? (i := 49) (by rfl))) (by rfl)
theorem ml_J0_492 : Cond.methodLink RJ0 492 yJ0_isLatin1_aae02 ∈ pw_T := pw_in (pt_1 (List.mem_of_getElem? (i := 53) (by rfl))) (by rfl)
theorem ml_J0_495 : Cond.methodLink RJ0 495 yJ1_charAt_3b067 ∈ pw_T := pw_in (pt_1 (List.mem_of_getElem? (i := 57) (by rfl))) (by rfl)
theorem ml_J1_9 : Cond.methodLink RJ1 9 yJ0_checkIndex_df160 ∈ pw_T := pw_in (pt_1 (List.mem_of_getElem? (i := 60) (by rfl))) (by rfl)
theorem ml_J0_1059 : Cond.methodLink RJ0 1059 yJ3_checkIndex_8e157 ∈ pw_T := pw_in (pt_1 (List.mem_of_getElem? (i := 65) (by rfl))) (by rfl)
theorem ml_J0_498 : Cond.methodLink RJ0 498 yJ2_charAt_3b067 ∈ pw_T := pw_in (pt_1 (List.mem_of_getElem? (i := 68) (by rfl))) (by rfl)
theorem ml_J2_67 : Cond.methodLink RJ2 67 yJ2_checkIndex_2214a ∈ pw_T := pw_in (pt_1 (List.mem_of_getElem? (i := 71) (by rfl))) (by rfl)
theorem ml_J2_48 : Cond.methodLink RJ2 48 yJ2_length_9d52b ∈ pw_T := pw_in (pt_1 (List.mem_of_getElem? (i := 74) (by rfl))) (by rfl)
theorem ml_J2_414 : Cond.methodLink RJ2 414 yJ0_checkIndex_df160 ∈ pw_T := pw_in (pt_1 (List.mem_of_getElem? (i := 77) (by rfl))) (by rfl)
theorem ml_J2_71 : Cond.methodLink RJ2 71 yJ2_getChar_3b067 ∈ pw_T := pw_in (pt_1 (List.mem_of_getElem? (i := 78) (by rfl))) (by rfl)
theorem ml_X6_48 : Cond.methodLink RX6 48 yJ0_indexOf_0f7a4 ∈ pw_T := pw_in (pt_1 (List.mem_of_getElem? (i := 87) (by rfl))) (by rfl)
theorem ml_J0_633 : Cond.methodLink RJ0 633 yJ0_indexOf_7cf53 ∈ pw_T := pw_in (pt_1 (List.mem_of_getElem? (i := 91) (by rfl))) (by rfl)
theorem ml_J0_505 : Cond.methodLink RJ0 505 yJ0_length_8abf5 ∈ pw_T := pw_in (pt_1 (List.mem_of_getElem? (i := 95) (by rfl))) (by rfl)
theorem ml_J0_637 : Cond.methodLink RJ0 637 yJ1_indexOf_4cfef ∈ pw_T := pw_in (pt_1 (List.mem_of_getElem? (i := 96) (by rfl))) (by rfl)
theorem ml_J1_88 : Cond.methodLink RJ1 88 yJ1_canEncode_9a6ad ∈ pw_T := pw_in (pt_1 (List.mem_of_getElem? (i := 99) (by rfl))) (by rfl)
theorem ml_J1_92 : Cond.methodLink RJ1 92 yJ9_max_7cf53 ∈ pw_T := pw_in (pt_1 (List.mem_of_getElem? (i := 102) (by rfl))) (by rfl)
theorem ml_J1_38 : Cond.methodLink RJ1 38 yJ9_min_7cf53 ∈ pw_T := pw_in (pt_1 (List.mem_of_getElem? (i := 105) (by rfl))) (by rfl)
theorem ml_J1_95 : Cond.methodLink RJ1 95 yJ1_indexOfChar_4cfef ∈ pw_T := pw_in (pt_1 (List.mem_of_getElem? (i := 108) (by rfl))) (by rfl)
theorem ml_J0_640 : Cond.methodLink RJ0 640 yJ2_indexOf_4cfef ∈ pw_T := pw_in (pt_1 (List.mem_of_getElem? (i := 111) (by rfl))) (by rfl)
theorem ml_J2_224 : Cond.methodLink RJ2 224 yJ9_max_7cf53 ∈ pw_T := pw_in (pt_1 (List.mem_of_getElem? (i := 114) (by rfl))) (by rfl)
theorem ml_J2_183 : Cond.methodLink RJ2 183 yJ9_min_7cf53 ∈ pw_T := pw_in (pt_1 (List.mem_of_getElem? (i := 115) (by rfl))) (by rfl)
theorem ml_J2_228 : Cond.methodLink RJ2 228 yJ2_indexOfChar_4cfef ∈ pw_T := pw_in (pt_1 (List.mem_of_getElem? (i := 117) (by rfl))) (by rfl)
theorem ml_J2_96 : Cond.methodLink RJ2 96 yJ2_checkBoundsBeginEnd_d044e ∈ pw_T := pw_in (pt_1 (List.mem_of_getElem? (i := 120) (by rfl))) (by rfl)
theorem ml_J2_241 : Cond.methodLink RJ2 241 yJ0_checkBoundsBeginEnd_23922 ∈ pw_T := pw_in (pt_1 (List.mem_of_getElem? (i := 123) (by rfl))) (by rfl)
theorem ml_J0_1062 : Cond.methodLink RJ0 1062 yJ3_checkFromToIndex_8c36e ∈ pw_T := pw_in (pt_1 (List.mem_of_getElem? (i := 126) (by rfl))) (by rfl)
theorem ml_J2_244 : Cond.methodLink RJ2 244 yJ2_indexOfCharUnsafe_4cfef ∈ pw_T := pw_in (pt_1 (List.mem_of_getElem? (i := 129) (by rfl))) (by rfl)
theorem ml_J2_232 : Cond.methodLink RJ2 232 yJ2_indexOfSupplementary_4cfef ∈ pw_T := pw_in (pt_1 (List.mem_of_getElem? (i := 132) (by rfl))) (by rfl)
theorem ml_J2_164 : Cond.methodLink RJ2 164 yJ11_isValidCodePoint_9a6ad ∈ pw_T := pw_in (pt_1 (List.mem_of_getElem? (i := 135) (by rfl))) (by rfl)
theorem ml_J2_157 : Cond.methodLink RJ2 157 yJ11_highSurrogate_5068e ∈ pw_T := pw_in (pt_1 (List.mem_of_getElem? (i := 138) (by rfl))) (by rfl)
theorem ml_J2_161 : Cond.methodLink RJ2 161 yJ11_lowSurrogate_5068e ∈ pw_T := pw_in (pt_1 (List.mem_of_getElem? (i := 142) (by rfl))) (by rfl)
theorem ml_X6_54 : Cond.methodLink RX6 54 yX6_hold ∈ pw_T := pw_in (pt_1 (List.mem_of_getElem? (i := 147) (by rfl))) (by rfl)
theorem ml_X6_94 : Cond.methodLink RX6 94 yX6_bucketOf ∈ pw_T := pw_in (pt_1 (List.mem_of_getElem? (i := 151) (by rfl))) (by rfl)
theorem ml_X9_22 : Cond.methodLink RX9 22 yX5_init ∈ pw_T := pw_in (pt_1 (List.mem_of_getElem? (i := 181) (by rfl))) (by rfl)
theorem ml_X5_3 : Cond.methodLink RX5 3 objectInit ∈ pw_T := pw_in (pt_1 (List.mem_of_getElem? (i := 184) (by rfl))) (by rfl)
theorem ml_X9_31 : Cond.methodLink RX9 31 yX7_init ∈ pw_T := pw_in (pt_1 (List.mem_of_getElem? (i := 234) (by rfl))) (by rfl)
theorem ml_X7_3 : Cond.methodLink RX7 3 objectInit ∈ pw_T := pw_in (pt_1 (List.mem_of_getElem? (i := 237) (by rfl))) (by rfl)
theorem ml_X4_3 : Cond.methodLink RX4 3 objectInit ∈ pw_T := pw_in (pt_2 (List.mem_of_getElem? (i := 20) (by rfl))) (by rfl)
theorem ml_X9_45 : Cond.methodLink RX9 45 yX3_init ∈ pw_T := pw_in (pt_2 (List.mem_of_getElem? (i := 34) (by rfl))) (by rfl)
theorem ml_X3_3 : Cond.methodLink RX3 3 objectInit ∈ pw_T := pw_in (pt_2 (List.mem_of_getElem? (i := 37) (by rfl))) (by rfl)
theorem ml_X9_54 : Cond.methodLink RX9 54 yX1_init ∈ pw_T := pw_in (pt_2 (List.mem_of_getElem? (i := 83) (by rfl))) (by rfl)
theorem ml_X1_3 : Cond.methodLink RX1 3 objectInit ∈ pw_T := pw_in (pt_2 (List.mem_of_getElem? (i := 86) (by rfl))) (by rfl)
theorem ml_X1_25 : Cond.methodLink RX1 25 yX8_init ∈ pw_T := pw_in (pt_2 (List.mem_of_getElem? (i := 89) (by rfl))) (by rfl)
theorem ml_X8_3 : Cond.methodLink RX8 3 objectInit ∈ pw_T := pw_in (pt_2 (List.mem_of_getElem? (i := 92) (by rfl))) (by rfl)
theorem ml_L_13 : Cond.methodLink RL 13 yX9_feed ∈ pw_T := pw_in (pt_2 (List.mem_of_getElem? (i := 149) (by rfl))) (by rfl)
theorem ml_L_18 : Cond.methodLink RL 18 yX9_end ∈ pw_T := pw_in (pt_2 (List.mem_of_getElem? (i := 153) (by rfl))) (by rfl)
theorem ml_X9_65 : Cond.methodLink RX9 65 yX5_append ∈ pw_T := pw_in (pt_2 (List.mem_of_getElem? (i := 157) (by rfl))) (by rfl)
theorem ml_X9_69 : Cond.methodLink RX9 69 yJ7_fill_53178 ∈ pw_T := pw_in (pt_2 (List.mem_of_getElem? (i := 161) (by rfl))) (by rfl)
theorem ml_L_23 : Cond.methodLink RL 23 yX9_fuel ∈ pw_T := pw_in (pt_2 (List.mem_of_getElem? (i := 162) (by rfl))) (by rfl)
theorem ml_L_27 : Cond.methodLink RL 27 yX9_run ∈ pw_T := pw_in (pt_2 (List.mem_of_getElem? (i := 166) (by rfl))) (by rfl)
theorem ml_X9_78 : Cond.methodLink RX9 78 yX7_clear ∈ pw_T := pw_in (pt_2 (List.mem_of_getElem? (i := 170) (by rfl))) (by rfl)
theorem ml_X9_81 : Cond.methodLink RX9 81 yX3_clear ∈ pw_T := pw_in (pt_2 (List.mem_of_getElem? (i := 174) (by rfl))) (by rfl)
theorem ml_X9_85 : Cond.methodLink RX9 85 yX6_forgetFrom ∈ pw_T := pw_in (pt_2 (List.mem_of_getElem? (i := 178) (by rfl))) (by rfl)
theorem ml_X9_89 : Cond.methodLink RX9 89 yX1_roomFor ∈ pw_T := pw_in (pt_2 (List.mem_of_getElem? (i := 182) (by rfl))) (by rfl)
theorem ml_X1_41 : Cond.methodLink RX1 41 yJ9_min_7cf53 ∈ pw_T := pw_in (pt_2 (List.mem_of_getElem? (i := 186) (by rfl))) (by rfl)
theorem ml_X9_93 : Cond.methodLink RX9 93 yX6_makeRoom ∈ pw_T := pw_in (pt_2 (List.mem_of_getElem? (i := 187) (by rfl))) (by rfl)
theorem ml_X6_87 : Cond.methodLink RX6 87 yJ7_copyOf_c38d5 ∈ pw_T := pw_in (pt_2 (List.mem_of_getElem? (i := 191) (by rfl))) (by rfl)
theorem ml_J7_319 : Cond.methodLink RJ7 319 ⟨"[J", "clone", "()Ljava/lang/Object;"⟩ ∈ pw_T := pw_in (pt_2 (List.mem_of_getElem? (i := 194) (by rfl))) (by rfl)
theorem ml_J7_304 : Cond.methodLink RJ7 304 yJ9_min_7cf53 ∈ pw_T := pw_in (pt_2 (List.mem_of_getElem? (i := 201) (by rfl))) (by rfl)
theorem ml_J7_150 : Cond.methodLink RJ7 150 ⟨"java/lang/System", "arraycopy", "(Ljava/lang/Object;ILjava/lang/Object;II)V"⟩ ∈ pw_T := pw_in (pt_2 (List.mem_of_getElem? (i := 202) (by rfl))) (by rfl)
theorem ml_X6_91 : Cond.methodLink RX6 91 yJ7_copyOf_59c91 ∈ pw_T := pw_in (pt_2 (List.mem_of_getElem? (i := 205) (by rfl))) (by rfl)
theorem ml_J7_316 : Cond.methodLink RJ7 316 ⟨"[I", "clone", "()Ljava/lang/Object;"⟩ ∈ pw_T := pw_in (pt_2 (List.mem_of_getElem? (i := 208) (by rfl))) (by rfl)
theorem ml_X9_97 : Cond.methodLink RX9 97 yX5_clear ∈ pw_T := pw_in (pt_2 (List.mem_of_getElem? (i := 213) (by rfl))) (by rfl)
theorem ml_X9_98 : Cond.methodLink RX9 98 yX5_read ∈ pw_T := pw_in (pt_2 (List.mem_of_getElem? (i := 217) (by rfl))) (by rfl)
theorem ml_X5_48 : Cond.methodLink RX5 48 yX5_clear ∈ pw_T := pw_in (pt_2 (List.mem_of_getElem? (i := 221) (by rfl))) (by rfl)
theorem ml_X5_51 : Cond.methodLink RX5 51 yX5_behindBlanks ∈ pw_T := pw_in (pt_2 (List.mem_of_getElem? (i := 222) (by rfl))) (by rfl)
theorem ml_X5_55 : Cond.methodLink RX5 55 yX5_behindWord ∈ pw_T := pw_in (pt_2 (List.mem_of_getElem? (i := 226) (by rfl))) (by rfl)
theorem ml_X5_65 : Cond.methodLink RX5 65 yX5_isAtomLetter ∈ pw_T := pw_in (pt_2 (List.mem_of_getElem? (i := 230) (by rfl))) (by rfl)
theorem ml_X5_78 : Cond.methodLink RX5 78 yJ0_indexOf_0f7a4 ∈ pw_T := pw_in (pt_2 (List.mem_of_getElem? (i := 234) (by rfl))) (by rfl)
theorem ml_X5_58 : Cond.methodLink RX5 58 yX5_faultOfWord ∈ pw_T := pw_in (pt_2 (List.mem_of_getElem? (i := 235) (by rfl))) (by rfl)
theorem ml_X5_69 : Cond.methodLink RX5 69 yX5_scanAtom ∈ pw_T := pw_in (pt_2 (List.mem_of_getElem? (i := 239) (by rfl))) (by rfl)
theorem ml_X5_73 : Cond.methodLink RX5 73 yX5_mayStand ∈ pw_T := pw_in (pt_3 (List.mem_of_getElem? (i := 7) (by rfl))) (by rfl)
theorem ml_X5_61 : Cond.methodLink RX5 61 yX5_take ∈ pw_T := pw_in (pt_3 (List.mem_of_getElem? (i := 11) (by rfl))) (by rfl)
theorem ml_X5_103 : Cond.methodLink RX5 103 yX5_openAt ∈ pw_T := pw_in (pt_3 (List.mem_of_getElem? (i := 15) (by rfl))) (by rfl)
theorem ml_X5_107 : Cond.methodLink RX5 107 yX5_closeList ∈ pw_T := pw_in (pt_3 (List.mem_of_getElem? (i := 19) (by rfl))) (by rfl)
theorem ml_X5_122 : Cond.methodLink RX5 122 yX6_pair ∈ pw_T := pw_in (pt_3 (List.mem_of_getElem? (i := 23) (by rfl))) (by rfl)
theorem ml_X6_58 : Cond.methodLink RX6 58 yX6_heightOf ∈ pw_T := pw_in (pt_3 (List.mem_of_getElem? (i := 27) (by rfl))) (by rfl)
theorem ml_X6_61 : Cond.methodLink RX6 61 yJ9_max_7cf53 ∈ pw_T := pw_in (pt_3 (List.mem_of_getElem? (i := 31) (by rfl))) (by rfl)
theorem ml_X5_119 : Cond.methodLink RX5 119 yX5_finish ∈ pw_T := pw_in (pt_3 (List.mem_of_getElem? (i := 32) (by rfl))) (by rfl)
theorem ml_X5_110 : Cond.methodLink RX5 110 yX6_natural ∈ pw_T := pw_in (pt_3 (List.mem_of_getElem? (i := 36) (by rfl))) (by rfl)
theorem ml_X5_116 : Cond.methodLink RX5 116 yX6_symbol ∈ pw_T := pw_in (pt_3 (List.mem_of_getElem? (i := 40) (by rfl))) (by rfl)
theorem ml_X9_102 : Cond.methodLink RX9 102 yX1_perform ∈ pw_T := pw_in (pt_3 (List.mem_of_getElem? (i := 44) (by rfl))) (by rfl)
theorem ml_X1_47 : Cond.methodLink RX1 47 yX6_lengthOf ∈ pw_T := pw_in (pt_3 (List.mem_of_getElem? (i := 48) (by rfl))) (by rfl)
theorem ml_X6_81 : Cond.methodLink RX6 81 yX6_isPair ∈ pw_T := pw_in (pt_3 (List.mem_of_getElem? (i := 52) (by rfl))) (by rfl)
theorem ml_X6_78 : Cond.methodLink RX6 78 yX6_tail ∈ pw_T := pw_in (pt_3 (List.mem_of_getElem? (i := 56) (by rfl))) (by rfl)
theorem ml_X1_51 : Cond.methodLink RX1 51 yX6_second ∈ pw_T := pw_in (pt_3 (List.mem_of_getElem? (i := 60) (by rfl))) (by rfl)
theorem ml_X6_75 : Cond.methodLink RX6 75 yX6_head ∈ pw_T := pw_in (pt_3 (List.mem_of_getElem? (i := 64) (by rfl))) (by rfl)
theorem ml_X1_54 : Cond.methodLink RX1 54 yX6_third ∈ pw_T := pw_in (pt_3 (List.mem_of_getElem? (i := 68) (by rfl))) (by rfl)
theorem ml_X1_60 : Cond.methodLink RX1 60 yX6_head ∈ pw_T := pw_in (pt_3 (List.mem_of_getElem? (i := 72) (by rfl))) (by rfl)
theorem ml_X1_63 : Cond.methodLink RX1 63 yX1_evaluate ∈ pw_T := pw_in (pt_3 (List.mem_of_getElem? (i := 73) (by rfl))) (by rfl)
theorem ml_X1_89 : Cond.methodLink RX1 89 yX8_isTerm ∈ pw_T := pw_in (pt_3 (List.mem_of_getElem? (i := 77) (by rfl))) (by rfl)
theorem ml_X8_23 : Cond.methodLink RX8 23 yX8_startWith ∈ pw_T := pw_in (pt_3 (List.mem_of_getElem? (i := 81) (by rfl))) (by rfl)
theorem ml_X8_31 : Cond.methodLink RX8 31 yX6_isVariable ∈ pw_T := pw_in (pt_3 (List.mem_of_getElem? (i := 85) (by rfl))) (by rfl)
theorem ml_X6_71 : Cond.methodLink RX6 71 yX6_isSymbol ∈ pw_T := pw_in (pt_3 (List.mem_of_getElem? (i := 89) (by rfl))) (by rfl)
theorem ml_X8_37 : Cond.methodLink RX8 37 yX6_isElement ∈ pw_T := pw_in (pt_3 (List.mem_of_getElem? (i := 93) (by rfl))) (by rfl)
theorem ml_X8_41 : Cond.methodLink RX8 41 yX6_isPair ∈ pw_T := pw_in (pt_3 (List.mem_of_getElem? (i := 97) (by rfl))) (by rfl)
theorem ml_X8_44 : Cond.methodLink RX8 44 yX6_isQuoted ∈ pw_T := pw_in (pt_3 (List.mem_of_getElem? (i := 98) (by rfl))) (by rfl)
theorem ml_X8_47 : Cond.methodLink RX8 47 yX6_head ∈ pw_T := pw_in (pt_3 (List.mem_of_getElem? (i := 102) (by rfl))) (by rfl)
theorem ml_X8_51 : Cond.methodLink RX8 51 yX8_takesOf ∈ pw_T := pw_in (pt_3 (List.mem_of_getElem? (i := 103) (by rfl))) (by rfl)
theorem ml_X8_85 : Cond.methodLink RX8 85 yX4_find ∈ pw_T := pw_in (pt_3 (List.mem_of_getElem? (i := 109) (by rfl))) (by rfl)
theorem ml_X8_54 : Cond.methodLink RX8 54 yX6_tail ∈ pw_T := pw_in (pt_3 (List.mem_of_getElem? (i := 113) (by rfl))) (by rfl)
theorem ml_X8_57 : Cond.methodLink RX8 57 yX6_lengthOf ∈ pw_T := pw_in (pt_3 (List.mem_of_getElem? (i := 114) (by rfl))) (by rfl)
theorem ml_X8_60 : Cond.methodLink RX8 60 yX8_addTermsOf ∈ pw_T := pw_in (pt_3 (List.mem_of_getElem? (i := 115) (by rfl))) (by rfl)
theorem ml_X1_93 : Cond.methodLink RX1 93 yX3_beginWith ∈ pw_T := pw_in (pt_3 (List.mem_of_getElem? (i := 119) (by rfl))) (by rfl)
theorem ml_X3_41 : Cond.methodLink RX3 41 yX3_evaluateNext ∈ pw_T := pw_in (pt_3 (List.mem_of_getElem? (i := 123) (by rfl))) (by rfl)
theorem ml_X1_99 : Cond.methodLink RX1 99 yX3_finish ∈ pw_T := pw_in (pt_3 (List.mem_of_getElem? (i := 127) (by rfl))) (by rfl)
theorem ml_X3_66 : Cond.methodLink RX3 66 yX3_beginTerm ∈ pw_T := pw_in (pt_3 (List.mem_of_getElem? (i := 132) (by rfl))) (by rfl)
theorem ml_X3_110 : Cond.methodLink RX3 110 yX6_isVariable ∈ pw_T := pw_in (pt_3 (List.mem_of_getElem? (i := 136) (by rfl))) (by rfl)
theorem ml_X3_113 : Cond.methodLink RX3 113 yX3_boundValueOf ∈ pw_T := pw_in (pt_3 (List.mem_of_getElem? (i := 137) (by rfl))) (by rfl)
theorem ml_X3_79 : Cond.methodLink RX3 79 yX6_isPair ∈ pw_T := pw_in (pt_3 (List.mem_of_getElem? (i := 141) (by rfl))) (by rfl)
theorem ml_X3_85 : Cond.methodLink RX3 85 yX6_head ∈ pw_T := pw_in (pt_3 (List.mem_of_getElem? (i := 142) (by rfl))) (by rfl)
theorem ml_X3_90 : Cond.methodLink RX3 90 yX6_tail ∈ pw_T := pw_in (pt_3 (List.mem_of_getElem? (i := 143) (by rfl))) (by rfl)
theorem ml_X3_116 : Cond.methodLink RX3 116 yX3_argumentOf ∈ pw_T := pw_in (pt_3 (List.mem_of_getElem? (i := 144) (by rfl))) (by rfl)
theorem ml_X3_120 : Cond.methodLink RX3 120 yX3_answer ∈ pw_T := pw_in (pt_3 (List.mem_of_getElem? (i := 148) (by rfl))) (by rfl)
theorem ml_X3_123 : Cond.methodLink RX3 123 yX6_second ∈ pw_T := pw_in (pt_3 (List.mem_of_getElem? (i := 152) (by rfl))) (by rfl)
theorem ml_X3_54 : Cond.methodLink RX3 54 yX3_openCall ∈ pw_T := pw_in (pt_3 (List.mem_of_getElem? (i := 153) (by rfl))) (by rfl)
theorem ml_X0_3 : Cond.methodLink RX0 3 objectInit ∈ pw_T := pw_in (pt_3 (List.mem_of_getElem? (i := 161) (by rfl))) (by rfl)
theorem ml_X3_134 : Cond.methodLink RX3 134 yX4_find ∈ pw_T := pw_in (pt_3 (List.mem_of_getElem? (i := 190) (by rfl))) (by rfl)
theorem ml_X3_140 : Cond.methodLink RX3 140 yX0_start ∈ pw_T := pw_in (pt_3 (List.mem_of_getElem? (i := 191) (by rfl))) (by rfl)
theorem ml_X3_72 : Cond.methodLink RX3 72 yX3_handOverValue ∈ pw_T := pw_in (pt_3 (List.mem_of_getElem? (i := 195) (by rfl))) (by rfl)
theorem ml_X3_58 : Cond.methodLink RX3 58 yX0_add ∈ pw_T := pw_in (pt_3 (List.mem_of_getElem? (i := 199) (by rfl))) (by rfl)
theorem ml_X3_104 : Cond.methodLink RX3 104 yX3_applyBase ∈ pw_T := pw_in (pt_3 (List.mem_of_getElem? (i := 203) (by rfl))) (by rfl)
theorem ml_X3_145 : Cond.methodLink RX3 145 yX3_truth ∈ pw_T := pw_in (pt_3 (List.mem_of_getElem? (i := 207) (by rfl))) (by rfl)
theorem ml_X3_149 : Cond.methodLink RX3 149 yX6_pair ∈ pw_T := pw_in (pt_3 (List.mem_of_getElem? (i := 210) (by rfl))) (by rfl)
theorem ml_X3_153 : Cond.methodLink RX3 153 yX6_amount ∈ pw_T := pw_in (pt_3 (List.mem_of_getElem? (i := 211) (by rfl))) (by rfl)
theorem ml_X6_84 : Cond.methodLink RX6 84 yX6_isNatural ∈ pw_T := pw_in (pt_3 (List.mem_of_getElem? (i := 215) (by rfl))) (by rfl)
theorem ml_X3_159 : Cond.methodLink RX3 159 yX6_natural ∈ pw_T := pw_in (pt_3 (List.mem_of_getElem? (i := 220) (by rfl))) (by rfl)
theorem ml_X3_163 : Cond.methodLink RX3 163 yJ9_max_f86c9 ∈ pw_T := pw_in (pt_3 (List.mem_of_getElem? (i := 221) (by rfl))) (by rfl)
theorem ml_X3_169 : Cond.methodLink RX3 169 yX6_isNatural ∈ pw_T := pw_in (pt_3 (List.mem_of_getElem? (i := 224) (by rfl))) (by rfl)
theorem ml_X3_172 : Cond.methodLink RX3 172 yX6_isSymbol ∈ pw_T := pw_in (pt_3 (List.mem_of_getElem? (i := 225) (by rfl))) (by rfl)
theorem ml_X3_175 : Cond.methodLink RX3 175 yX6_heightOf ∈ pw_T := pw_in (pt_3 (List.mem_of_getElem? (i := 226) (by rfl))) (by rfl)
theorem ml_X1_67 : Cond.methodLink RX1 67 yX1_boundVariables ∈ pw_T := pw_in (pt_3 (List.mem_of_getElem? (i := 227) (by rfl))) (by rfl)
theorem ml_X1_105 : Cond.methodLink RX1 105 yX6_isVariable ∈ pw_T := pw_in (pt_3 (List.mem_of_getElem? (i := 231) (by rfl))) (by rfl)
theorem ml_X1_109 : Cond.methodLink RX1 109 yX6_isElement ∈ pw_T := pw_in (pt_3 (List.mem_of_getElem? (i := 232) (by rfl))) (by rfl)
theorem ml_X1_113 : Cond.methodLink RX1 113 yX6_pair ∈ pw_T := pw_in (pt_3 (List.mem_of_getElem? (i := 233) (by rfl))) (by rfl)
theorem ml_X1_116 : Cond.methodLink RX1 116 yX6_tail ∈ pw_T := pw_in (pt_3 (List.mem_of_getElem? (i := 234) (by rfl))) (by rfl)
theorem ml_X1_70 : Cond.methodLink RX1 70 yX1_map ∈ pw_T := pw_in (pt_3 (List.mem_of_getElem? (i := 235) (by rfl))) (by rfl)
theorem ml_X1_119 : Cond.methodLink RX1 119 yX1_isFunctionName ∈ pw_T := pw_in (pt_3 (List.mem_of_getElem? (i := 239) (by rfl))) (by rfl)
theorem ml_X1_180 : Cond.methodLink RX1 180 yX6_isSymbol ∈ pw_T := pw_in (pt_4 (List.mem_of_getElem? (i := 3) (by rfl))) (by rfl)
theorem ml_X1_122 : Cond.methodLink RX1 122 yX4_find ∈ pw_T := pw_in (pt_4 (List.mem_of_getElem? (i := 4) (by rfl))) (by rfl)
theorem ml_X1_133 : Cond.methodLink RX1 133 yX3_beginCall ∈ pw_T := pw_in (pt_4 (List.mem_of_getElem? (i := 5) (by rfl))) (by rfl)
theorem ml_X1_137 : Cond.methodLink RX1 137 yX1_reversed ∈ pw_T := pw_in (pt_4 (List.mem_of_getElem? (i := 9) (by rfl))) (by rfl)
theorem ml_X1_73 : Cond.methodLink RX1 73 yX6_fourth ∈ pw_T := pw_in (pt_4 (List.mem_of_getElem? (i := 13) (by rfl))) (by rfl)
theorem ml_X1_76 : Cond.methodLink RX1 76 yX1_define ∈ pw_T := pw_in (pt_4 (List.mem_of_getElem? (i := 17) (by rfl))) (by rfl)
theorem ml_X1_140 : Cond.methodLink RX1 140 yX1_isDefinition ∈ pw_T := pw_in (pt_4 (List.mem_of_getElem? (i := 21) (by rfl))) (by rfl)
theorem ml_X1_161 : Cond.methodLink RX1 161 yX1_areParameters ∈ pw_T := pw_in (pt_4 (List.mem_of_getElem? (i := 25) (by rfl))) (by rfl)
theorem ml_X1_144 : Cond.methodLink RX1 144 yX4_isFull ∈ pw_T := pw_in (pt_4 (List.mem_of_getElem? (i := 29) (by rfl))) (by rfl)
theorem ml_X1_148 : Cond.methodLink RX1 148 yX2_init ∈ pw_T := pw_in (pt_4 (List.mem_of_getElem? (i := 35) (by rfl))) (by rfl)
theorem ml_X2_1 : Cond.methodLink RX2 1 objectInit ∈ pw_T := pw_in (pt_4 (List.mem_of_getElem? (i := 38) (by rfl))) (by rfl)
theorem ml_X1_151 : Cond.methodLink RX1 151 yX4_add ∈ pw_T := pw_in (pt_4 (List.mem_of_getElem? (i := 61) (by rfl))) (by rfl)
theorem ml_X4_24 : Cond.methodLink RX4 24 yX4_isFull ∈ pw_T := pw_in (pt_4 (List.mem_of_getElem? (i := 65) (by rfl))) (by rfl)
theorem ml_X1_79 : Cond.methodLink RX1 79 yX1_defineAnew ∈ pw_T := pw_in (pt_4 (List.mem_of_getElem? (i := 66) (by rfl))) (by rfl)
theorem ml_X1_82 : Cond.methodLink RX1 82 yX1_undo ∈ pw_T := pw_in (pt_4 (List.mem_of_getElem? (i := 70) (by rfl))) (by rfl)
theorem ml_X1_165 : Cond.methodLink RX1 165 yX4_at ∈ pw_T := pw_in (pt_4 (List.mem_of_getElem? (i := 74) (by rfl))) (by rfl)
theorem ml_X1_171 : Cond.methodLink RX1 171 yX8_isCalled ∈ pw_T := pw_in (pt_4 (List.mem_of_getElem? (i := 78) (by rfl))) (by rfl)
theorem ml_X8_63 : Cond.methodLink RX8 63 yX8_gather ∈ pw_T := pw_in (pt_4 (List.mem_of_getElem? (i := 82) (by rfl))) (by rfl)
theorem ml_X8_66 : Cond.methodLink RX8 66 yX8_isCall ∈ pw_T := pw_in (pt_4 (List.mem_of_getElem? (i := 86) (by rfl))) (by rfl)
theorem ml_X1_174 : Cond.methodLink RX1 174 yX4_removeLast ∈ pw_T := pw_in (pt_4 (List.mem_of_getElem? (i := 90) (by rfl))) (by rfl)
theorem ml_X1_86 : Cond.methodLink RX1 86 yX1_show ∈ pw_T := pw_in (pt_4 (List.mem_of_getElem? (i := 94) (by rfl))) (by rfl)
theorem ml_X1_177 : Cond.methodLink RX1 177 yX8_plain ∈ pw_T := pw_in (pt_4 (List.mem_of_getElem? (i := 98) (by rfl))) (by rfl)
theorem ml_X8_69 : Cond.methodLink RX8 69 yX8_listOfParts ∈ pw_T := pw_in (pt_4 (List.mem_of_getElem? (i := 102) (by rfl))) (by rfl)
theorem ml_X8_73 : Cond.methodLink RX8 73 yX6_pair ∈ pw_T := pw_in (pt_4 (List.mem_of_getElem? (i := 106) (by rfl))) (by rfl)
theorem ml_X8_76 : Cond.methodLink RX8 76 yX6_second ∈ pw_T := pw_in (pt_4 (List.mem_of_getElem? (i := 107) (by rfl))) (by rfl)
theorem ml_X8_79 : Cond.methodLink RX8 79 yX8_isPlainConstant ∈ pw_T := pw_in (pt_4 (List.mem_of_getElem? (i := 108) (by rfl))) (by rfl)
theorem ml_X8_96 : Cond.methodLink RX8 96 yX6_isNatural ∈ pw_T := pw_in (pt_4 (List.mem_of_getElem? (i := 112) (by rfl))) (by rfl)
theorem ml_X9_108 : Cond.methodLink RX9 108 yX7_tell ∈ pw_T := pw_in (pt_4 (List.mem_of_getElem? (i := 113) (by rfl))) (by rfl)
theorem ml_X7_30 : Cond.methodLink RX7 30 yX7_beginObject ∈ pw_T := pw_in (pt_4 (List.mem_of_getElem? (i := 117) (by rfl))) (by rfl)
theorem ml_X7_34 : Cond.methodLink RX7 34 yX6_isQuoted ∈ pw_T := pw_in (pt_4 (List.mem_of_getElem? (i := 121) (by rfl))) (by rfl)
theorem ml_X7_40 : Cond.methodLink RX7 40 yX7_put ∈ pw_T := pw_in (pt_4 (List.mem_of_getElem? (i := 122) (by rfl))) (by rfl)
theorem ml_X7_44 : Cond.methodLink RX7 44 yX6_second ∈ pw_T := pw_in (pt_4 (List.mem_of_getElem? (i := 126) (by rfl))) (by rfl)
theorem ml_X7_47 : Cond.methodLink RX7 47 yX6_isPair ∈ pw_T := pw_in (pt_4 (List.mem_of_getElem? (i := 127) (by rfl))) (by rfl)
theorem ml_X7_50 : Cond.methodLink RX7 50 yX7_beginRest ∈ pw_T := pw_in (pt_4 (List.mem_of_getElem? (i := 128) (by rfl))) (by rfl)
theorem ml_X7_61 : Cond.methodLink RX7 61 yX6_tail ∈ pw_T := pw_in (pt_4 (List.mem_of_getElem? (i := 132) (by rfl))) (by rfl)
theorem ml_X7_64 : Cond.methodLink RX7 64 yX6_head ∈ pw_T := pw_in (pt_4 (List.mem_of_getElem? (i := 133) (by rfl))) (by rfl)
theorem ml_X7_53 : Cond.methodLink RX7 53 yX7_putAtom ∈ pw_T := pw_in (pt_4 (List.mem_of_getElem? (i := 134) (by rfl))) (by rfl)
theorem ml_X7_67 : Cond.methodLink RX7 67 yX6_isNatural ∈ pw_T := pw_in (pt_4 (List.mem_of_getElem? (i := 138) (by rfl))) (by rfl)
theorem ml_X7_70 : Cond.methodLink RX7 70 yX6_amount ∈ pw_T := pw_in (pt_4 (List.mem_of_getElem? (i := 139) (by rfl))) (by rfl)
theorem ml_X7_74 : Cond.methodLink RX7 74 yX7_putNatural ∈ pw_T := pw_in (pt_4 (List.mem_of_getElem? (i := 140) (by rfl))) (by rfl)
theorem ml_X7_78 : Cond.methodLink RX7 78 yX6_spelling ∈ pw_T := pw_in (pt_4 (List.mem_of_getElem? (i := 147) (by rfl))) (by rfl)
theorem ml_X7_81 : Cond.methodLink RX7 81 yX7_putSymbol ∈ pw_T := pw_in (pt_4 (List.mem_of_getElem? (i := 151) (by rfl))) (by rfl)
theorem ml_X7_96 : Cond.methodLink RX7 96 yJ0_charAt_5068e ∈ pw_T := pw_in (pt_4 (List.mem_of_getElem? (i := 158) (by rfl))) (by rfl)
theorem ml_X7_57 : Cond.methodLink RX7 57 yX7_goOn ∈ pw_T := pw_in (pt_4 (List.mem_of_getElem? (i := 159) (by rfl))) (by rfl)
theorem ml_L_32 : Cond.methodLink RL 32 yX9_fault ∈ pw_T := pw_in (pt_4 (List.mem_of_getElem? (i := 163) (by rfl))) (by rfl)
theorem ml_L_36 : Cond.methodLink RL 36 yX9_steps ∈ pw_T := pw_in (pt_4 (List.mem_of_getElem? (i := 167) (by rfl))) (by rfl)
theorem ml_L_40 : Cond.methodLink RL 40 yX9_functions ∈ pw_T := pw_in (pt_4 (List.mem_of_getElem? (i := 171) (by rfl))) (by rfl)
theorem ml_L_44 : Cond.methodLink RL 44 yX9_size ∈ pw_T := pw_in (pt_4 (List.mem_of_getElem? (i := 175) (by rfl))) (by rfl)
theorem ml_L_48 : Cond.methodLink RL 48 yX9_letter ∈ pw_T := pw_in (pt_4 (List.mem_of_getElem? (i := 179) (by rfl))) (by rfl)
theorem ml_X9_125 : Cond.methodLink RX9 125 yX7_characterAt ∈ pw_T := pw_in (pt_4 (List.mem_of_getElem? (i := 183) (by rfl))) (by rfl)
theorem ml_L_12 : Cond.methodLink RL 12 yX10_init ∈ pw_T := pw_in (pt_4 (List.mem_of_getElem? (i := 189) (by rfl))) (by rfl)
theorem ml_X10_1 : Cond.methodLink RX10 1 objectInit ∈ pw_T := pw_in (pt_4 (List.mem_of_getElem? (i := 192) (by rfl))) (by rfl)
theorem ml_X10_141 : Cond.methodLink RX10 141 yX10_said ∈ pw_T := pw_in (pt_4 (List.mem_of_getElem? (i := 195) (by rfl))) (by rfl)
theorem ml_X10_148 : Cond.methodLink RX10 148 yX10_spell ∈ pw_T := pw_in (pt_4 (List.mem_of_getElem? (i := 199) (by rfl))) (by rfl)
theorem ml_X10_152 : Cond.methodLink RX10 152 yX10_symbol ∈ pw_T := pw_in (pt_4 (List.mem_of_getElem? (i := 203) (by rfl))) (by rfl)
theorem ml_X10_161 : Cond.methodLink RX10 161 yX10_spelled ∈ pw_T := pw_in (pt_4 (List.mem_of_getElem? (i := 207) (by rfl))) (by rfl)
theorem ml_X10_172 : Cond.methodLink RX10 172 yX10_isWord ∈ pw_T := pw_in (pt_4 (List.mem_of_getElem? (i := 211) (by rfl))) (by rfl)
theorem ml_X10_168 : Cond.methodLink RX10 168 yX10_added ∈ pw_T := pw_in (pt_4 (List.mem_of_getElem? (i := 215) (by rfl))) (by rfl)
theorem ml_L_17 : Cond.methodLink RL 17 yX10_feed ∈ pw_T := pw_in (pt_5 (List.mem_of_getElem? (i := 191) (by rfl))) (by rfl)
theorem ml_L_22 : Cond.methodLink RL 22 yX10_end ∈ pw_T := pw_in (pt_5 (List.mem_of_getElem? (i := 195) (by rfl))) (by rfl)
theorem ml_L_26 : Cond.methodLink RL 26 yX10_fuel ∈ pw_T := pw_in (pt_5 (List.mem_of_getElem? (i := 199) (by rfl))) (by rfl)
theorem ml_L_31 : Cond.methodLink RL 31 yX10_run ∈ pw_T := pw_in (pt_5 (List.mem_of_getElem? (i := 203) (by rfl))) (by rfl)
theorem ml_X10_479 : Cond.methodLink RX10 479 yX10_reads ∈ pw_T := pw_in (pt_5 (List.mem_of_getElem? (i := 207) (by rfl))) (by rfl)
theorem ml_X10_259 : Cond.methodLink RX10 259 yX10_skip ∈ pw_T := pw_in (pt_5 (List.mem_of_getElem? (i := 211) (by rfl))) (by rfl)
theorem ml_X10_262 : Cond.methodLink RX10 262 yX10_readWord ∈ pw_T := pw_in (pt_5 (List.mem_of_getElem? (i := 215) (by rfl))) (by rfl)
theorem ml_X10_236 : Cond.methodLink RX10 236 yX10_mayBegin ∈ pw_T := pw_in (pt_5 (List.mem_of_getElem? (i := 219) (by rfl))) (by rfl)
theorem ml_X10_240 : Cond.methodLink RX10 240 yX10_bad ∈ pw_T := pw_in (pt_5 (List.mem_of_getElem? (i := 223) (by rfl))) (by rfl)
theorem ml_X10_244 : Cond.methodLink RX10 244 yX10_begin ∈ pw_T := pw_in (pt_5 (List.mem_of_getElem? (i := 227) (by rfl))) (by rfl)
theorem ml_X10_247 : Cond.methodLink RX10 247 yX10_isInList ∈ pw_T := pw_in (pt_5 (List.mem_of_getElem? (i := 231) (by rfl))) (by rfl)
theorem ml_X10_250 : Cond.methodLink RX10 250 yX10_close ∈ pw_T := pw_in (pt_5 (List.mem_of_getElem? (i := 235) (by rfl))) (by rfl)
theorem ml_X10_183 : Cond.methodLink RX10 183 yX10_pair ∈ pw_T := pw_in (pt_5 (List.mem_of_getElem? (i := 239) (by rfl))) (by rfl)
theorem ml_X10_157 : Cond.methodLink RX10 157 yX10_slot ∈ pw_T := pw_in (pt_6 (List.mem_of_getElem? (i := 3) (by rfl))) (by rfl)
theorem ml_X10_223 : Cond.methodLink RX10 223 yX10_deliver ∈ pw_T := pw_in (pt_6 (List.mem_of_getElem? (i := 7) (by rfl))) (by rfl)
theorem ml_X10_189 : Cond.methodLink RX10 189 yX10_list2 ∈ pw_T := pw_in (pt_6 (List.mem_of_getElem? (i := 11) (by rfl))) (by rfl)
theorem ml_X10_186 : Cond.methodLink RX10 186 yX10_list1 ∈ pw_T := pw_in (pt_6 (List.mem_of_getElem? (i := 15) (by rfl))) (by rfl)
theorem ml_X10_253 : Cond.methodLink RX10 253 yX10_isAtom ∈ pw_T := pw_in (pt_6 (List.mem_of_getElem? (i := 19) (by rfl))) (by rfl)
theorem ml_X10_198 : Cond.methodLink RX10 198 yX10_isDigit ∈ pw_T := pw_in (pt_6 (List.mem_of_getElem? (i := 22) (by rfl))) (by rfl)
theorem ml_X10_256 : Cond.methodLink RX10 256 yX10_atom ∈ pw_T := pw_in (pt_6 (List.mem_of_getElem? (i := 25) (by rfl))) (by rfl)
theorem ml_X10_232 : Cond.methodLink RX10 232 yX10_natural ∈ pw_T := pw_in (pt_6 (List.mem_of_getElem? (i := 32) (by rfl))) (by rfl)
theorem ml_X10_482 : Cond.methodLink RX10 482 yX10_command ∈ pw_T := pw_in (pt_6 (List.mem_of_getElem? (i := 36) (by rfl))) (by rfl)
theorem ml_X10_195 : Cond.methodLink RX10 195 yX10_isPair ∈ pw_T := pw_in (pt_6 (List.mem_of_getElem? (i := 40) (by rfl))) (by rfl)
theorem ml_X10_461 : Cond.methodLink RX10 461 yX10_eval ∈ pw_T := pw_in (pt_6 (List.mem_of_getElem? (i := 44) (by rfl))) (by rfl)
theorem ml_X10_325 : Cond.methodLink RX10 325 yX10_lengthOf ∈ pw_T := pw_in (pt_6 (List.mem_of_getElem? (i := 48) (by rfl))) (by rfl)
theorem ml_X10_292 : Cond.methodLink RX10 292 yX10_nth ∈ pw_T := pw_in (pt_6 (List.mem_of_getElem? (i := 52) (by rfl))) (by rfl)
theorem ml_X10_430 : Cond.methodLink RX10 430 yX10_termOf ∈ pw_T := pw_in (pt_6 (List.mem_of_getElem? (i := 56) (by rfl))) (by rfl)
theorem ml_X10_334 : Cond.methodLink RX10 334 yX10_beginTerm ∈ pw_T := pw_in (pt_6 (List.mem_of_getElem? (i := 60) (by rfl))) (by rfl)
theorem ml_X10_316 : Cond.methodLink RX10 316 yX10_build ∈ pw_T := pw_in (pt_6 (List.mem_of_getElem? (i := 64) (by rfl))) (by rfl)
theorem ml_X10_286 : Cond.methodLink RX10 286 yX10_isQuoted ∈ pw_T := pw_in (pt_6 (List.mem_of_getElem? (i := 68) (by rfl))) (by rfl)
theorem ml_X10_319 : Cond.methodLink RX10 319 yX10_constantOf ∈ pw_T := pw_in (pt_6 (List.mem_of_getElem? (i := 72) (by rfl))) (by rfl)
theorem ml_X10_289 : Cond.methodLink RX10 289 yX10_isNatural ∈ pw_T := pw_in (pt_6 (List.mem_of_getElem? (i := 76) (by rfl))) (by rfl)
theorem ml_X10_268 : Cond.methodLink RX10 268 yX10_isSymbol ∈ pw_T := pw_in (pt_6 (List.mem_of_getElem? (i := 80) (by rfl))) (by rfl)
theorem ml_X10_322 : Cond.methodLink RX10 322 yX10_functionOf ∈ pw_T := pw_in (pt_6 (List.mem_of_getElem? (i := 84) (by rfl))) (by rfl)
theorem ml_X10_328 : Cond.methodLink RX10 328 yX10_manyOf ∈ pw_T := pw_in (pt_6 (List.mem_of_getElem? (i := 88) (by rfl))) (by rfl)
theorem ml_X10_331 : Cond.methodLink RX10 331 yX10_openCall ∈ pw_T := pw_in (pt_6 (List.mem_of_getElem? (i := 92) (by rfl))) (by rfl)
theorem ml_X10_337 : Cond.methodLink RX10 337 yX10_callFrom ∈ pw_T := pw_in (pt_6 (List.mem_of_getElem? (i := 96) (by rfl))) (by rfl)
theorem ml_X10_310 : Cond.methodLink RX10 310 yX10_sizeOf ∈ pw_T := pw_in (pt_6 (List.mem_of_getElem? (i := 100) (by rfl))) (by rfl)
theorem ml_X10_304 : Cond.methodLink RX10 304 yX10_isCall ∈ pw_T := pw_in (pt_6 (List.mem_of_getElem? (i := 104) (by rfl))) (by rfl)
theorem ml_X10_433 : Cond.methodLink RX10 433 yX10_hasOnly ∈ pw_T := pw_in (pt_6 (List.mem_of_getElem? (i := 108) (by rfl))) (by rfl)
theorem ml_X10_414 : Cond.methodLink RX10 414 yX10_variablesOf ∈ pw_T := pw_in (pt_6 (List.mem_of_getElem? (i := 112) (by rfl))) (by rfl)
theorem ml_X10_343 : Cond.methodLink RX10 343 yX10_walkTo ∈ pw_T := pw_in (pt_6 (List.mem_of_getElem? (i := 116) (by rfl))) (by rfl)
theorem ml_X10_346 : Cond.methodLink RX10 346 yX10_walkOn ∈ pw_T := pw_in (pt_6 (List.mem_of_getElem? (i := 120) (by rfl))) (by rfl)
theorem ml_X10_356 : Cond.methodLink RX10 356 yX10_isVariable ∈ pw_T := pw_in (pt_6 (List.mem_of_getElem? (i := 124) (by rfl))) (by rfl)
theorem ml_X10_417 : Cond.methodLink RX10 417 yX10_isIn ∈ pw_T := pw_in (pt_6 (List.mem_of_getElem? (i := 128) (by rfl))) (by rfl)
theorem ml_X10_436 : Cond.methodLink RX10 436 yX10_toldValue ∈ pw_T := pw_in (pt_6 (List.mem_of_getElem? (i := 132) (by rfl))) (by rfl)
theorem ml_X10_423 : Cond.methodLink RX10 423 yX10_evaluated ∈ pw_T := pw_in (pt_6 (List.mem_of_getElem? (i := 136) (by rfl))) (by rfl)
theorem ml_X10_397 : Cond.methodLink RX10 397 yX10_beginEval ∈ pw_T := pw_in (pt_6 (List.mem_of_getElem? (i := 140) (by rfl))) (by rfl)
theorem ml_X10_362 : Cond.methodLink RX10 362 yX10_isConstant ∈ pw_T := pw_in (pt_6 (List.mem_of_getElem? (i := 144) (by rfl))) (by rfl)
theorem ml_X10_365 : Cond.methodLink RX10 365 yX10_valueOf ∈ pw_T := pw_in (pt_6 (List.mem_of_getElem? (i := 148) (by rfl))) (by rfl)
theorem ml_X10_404 : Cond.methodLink RX10 404 yX10_takeValue ∈ pw_T := pw_in (pt_6 (List.mem_of_getElem? (i := 152) (by rfl))) (by rfl)
theorem ml_X10_394 : Cond.methodLink RX10 394 yX10_term ∈ pw_T := pw_in (pt_6 (List.mem_of_getElem? (i := 156) (by rfl))) (by rfl)
theorem ml_X10_408 : Cond.methodLink RX10 408 yX10_goOn ∈ pw_T := pw_in (pt_6 (List.mem_of_getElem? (i := 160) (by rfl))) (by rfl)
theorem ml_X10_401 : Cond.methodLink RX10 401 yX10_basic ∈ pw_T := pw_in (pt_6 (List.mem_of_getElem? (i := 164) (by rfl))) (by rfl)
theorem ml_X10_386 : Cond.methodLink RX10 386 yX10_truth ∈ pw_T := pw_in (pt_6 (List.mem_of_getElem? (i := 168) (by rfl))) (by rfl)
theorem ml_X10_390 : Cond.methodLink RX10 390 yX10_numberOf ∈ pw_T := pw_in (pt_6 (List.mem_of_getElem? (i := 171) (by rfl))) (by rfl)
theorem ml_X10_427 : Cond.methodLink RX10 427 yX10_tellOut ∈ pw_T := pw_in (pt_6 (List.mem_of_getElem? (i := 175) (by rfl))) (by rfl)
theorem ml_X10_420 : Cond.methodLink RX10 420 yX10_tellObject ∈ pw_T := pw_in (pt_6 (List.mem_of_getElem? (i := 179) (by rfl))) (by rfl)
theorem ml_X10_277 : Cond.methodLink RX10 277 yX10_later ∈ pw_T := pw_in (pt_6 (List.mem_of_getElem? (i := 183) (by rfl))) (by rfl)
theorem ml_X10_280 : Cond.methodLink RX10 280 yX10_isFull ∈ pw_T := pw_in (pt_6 (List.mem_of_getElem? (i := 187) (by rfl))) (by rfl)
theorem ml_X10_283 : Cond.methodLink RX10 283 yX10_tellAtom ∈ pw_T := pw_in (pt_6 (List.mem_of_getElem? (i := 191) (by rfl))) (by rfl)
theorem ml_X10_271 : Cond.methodLink RX10 271 yX10_tellLetter ∈ pw_T := pw_in (pt_6 (List.mem_of_getElem? (i := 195) (by rfl))) (by rfl)
theorem ml_X10_464 : Cond.methodLink RX10 464 yX10_with ∈ pw_T := pw_in (pt_6 (List.mem_of_getElem? (i := 199) (by rfl))) (by rfl)
theorem ml_X10_467 : Cond.methodLink RX10 467 yX10_map ∈ pw_T := pw_in (pt_6 (List.mem_of_getElem? (i := 203) (by rfl))) (by rfl)
theorem ml_X10_442 : Cond.methodLink RX10 442 yX10_isNewName ∈ pw_T := pw_in (pt_6 (List.mem_of_getElem? (i := 207) (by rfl))) (by rfl)
theorem ml_X10_411 : Cond.methodLink RX10 411 yX10_isReserved ∈ pw_T := pw_in (pt_6 (List.mem_of_getElem? (i := 211) (by rfl))) (by rfl)
theorem ml_X10_445 : Cond.methodLink RX10 445 yX10_definition ∈ pw_T := pw_in (pt_6 (List.mem_of_getElem? (i := 214) (by rfl))) (by rfl)
theorem ml_X10_470 : Cond.methodLink RX10 470 yX10_defun ∈ pw_T := pw_in (pt_6 (List.mem_of_getElem? (i := 218) (by rfl))) (by rfl)
theorem ml_X10_448 : Cond.methodLink RX10 448 yX10_areVariables ∈ pw_T := pw_in (pt_6 (List.mem_of_getElem? (i := 222) (by rfl))) (by rfl)
theorem ml_X10_473 : Cond.methodLink RX10 473 yX10_undo ∈ pw_T := pw_in (pt_6 (List.mem_of_getElem? (i := 226) (by rfl))) (by rfl)
theorem ml_X10_454 : Cond.methodLink RX10 454 yX10_hasCall ∈ pw_T := pw_in (pt_6 (List.mem_of_getElem? (i := 230) (by rfl))) (by rfl)
theorem ml_X10_349 : Cond.methodLink RX10 349 yX10_isCallOf ∈ pw_T := pw_in (pt_6 (List.mem_of_getElem? (i := 234) (by rfl))) (by rfl)
theorem ml_X10_476 : Cond.methodLink RX10 476 yX10_show ∈ pw_T := pw_in (pt_6 (List.mem_of_getElem? (i := 238) (by rfl))) (by rfl)
theorem ml_X10_457 : Cond.methodLink RX10 457 yX10_list4 ∈ pw_T := pw_in (pt_7 (List.mem_of_getElem? (i := 2) (by rfl))) (by rfl)
theorem ml_X10_192 : Cond.methodLink RX10 192 yX10_list3 ∈ pw_T := pw_in (pt_7 (List.mem_of_getElem? (i := 6) (by rfl))) (by rfl)
theorem ml_X10_485 : Cond.methodLink RX10 485 yX10_forget ∈ pw_T := pw_in (pt_7 (List.mem_of_getElem? (i := 10) (by rfl))) (by rfl)
theorem ml_X10_179 : Cond.methodLink RX10 179 yX10_slotOf ∈ pw_T := pw_in (pt_7 (List.mem_of_getElem? (i := 14) (by rfl))) (by rfl)
theorem ml_L_35 : Cond.methodLink RL 35 yX10_fault ∈ pw_T := pw_in (pt_7 (List.mem_of_getElem? (i := 18) (by rfl))) (by rfl)
theorem ml_L_39 : Cond.methodLink RL 39 yX10_steps ∈ pw_T := pw_in (pt_7 (List.mem_of_getElem? (i := 22) (by rfl))) (by rfl)
theorem ml_L_43 : Cond.methodLink RL 43 yX10_functions ∈ pw_T := pw_in (pt_7 (List.mem_of_getElem? (i := 26) (by rfl))) (by rfl)
theorem ml_L_47 : Cond.methodLink RL 47 yX10_size ∈ pw_T := pw_in (pt_7 (List.mem_of_getElem? (i := 30) (by rfl))) (by rfl)
theorem ml_L_51 : Cond.methodLink RL 51 yX10_letter ∈ pw_T := pw_in (pt_7 (List.mem_of_getElem? (i := 34) (by rfl))) (by rfl)
theorem mn_X9_38 : Cond.methodLinkNest RX9 38 yX4_init RX9 ∈ pw_N := pw_inN (pt_2 (List.mem_of_getElem? (i := 17) (by rfl))) (by rfl)
theorem mn_X3_133 : Cond.methodLinkNest RX3 133 yX0_init RX9 ∈ pw_N := pw_inN (pt_3 (List.mem_of_getElem? (i := 158) (by rfl))) (by rfl)
theorem kl_L_7 : Cond.classLink RL 7 RX9 ∈ pw_T := pw_in (pt_1 (List.mem_of_getElem? (i := 20) (by rfl))) (by rfl)
theorem kl_X9_13 : Cond.classLink RX9 13 RX6 ∈ pw_T := pw_in (pt_1 (List.mem_of_getElem? (i := 28) (by rfl))) (by rfl)
theorem kl_X9_20 : Cond.classLink RX9 20 RX5 ∈ pw_T := pw_in (pt_1 (List.mem_of_getElem? (i := 179) (by rfl))) (by rfl)
theorem kl_X9_29 : Cond.classLink RX9 29 RX7 ∈ pw_T := pw_in (pt_1 (List.mem_of_getElem? (i := 232) (by rfl))) (by rfl)
theorem kl_X9_36 : Cond.classLink RX9 36 RX4 ∈ pw_T := pw_in (pt_2 (List.mem_of_getElem? (i := 15) (by rfl))) (by rfl)
theorem kl_X4_9 : Cond.classLink RX4 9 RX2 ∈ pw_T := pw_in (pt_2 (List.mem_of_getElem? (i := 21) (by rfl))) (by rfl)
theorem kl_X9_43 : Cond.classLink RX9 43 RX3 ∈ pw_T := pw_in (pt_2 (List.mem_of_getElem? (i := 32) (by rfl))) (by rfl)
theorem kl_X3_11 : Cond.classLink RX3 11 RX0 ∈ pw_T := pw_in (pt_2 (List.mem_of_getElem? (i := 38) (by rfl))) (by rfl)
theorem kl_X9_52 : Cond.classLink RX9 52 RX1 ∈ pw_T := pw_in (pt_2 (List.mem_of_getElem? (i := 81) (by rfl))) (by rfl)
theorem kl_X1_23 : Cond.classLink RX1 23 RX8 ∈ pw_T := pw_in (pt_2 (List.mem_of_getElem? (i := 87) (by rfl))) (by rfl)
theorem kl_J7_320 : Cond.classLink RJ7 320 "[J" ∈ pw_T := pw_in (pt_2 (List.mem_of_getElem? (i := 200) (by rfl))) (by rfl)
theorem kl_J7_317 : Cond.classLink RJ7 317 "[I" ∈ pw_T := pw_in (pt_2 (List.mem_of_getElem? (i := 212) (by rfl))) (by rfl)
theorem kl_X1_129 : Cond.classLink RX1 129 RX2 ∈ pw_T := pw_in (pt_4 (List.mem_of_getElem? (i := 33) (by rfl))) (by rfl)
theorem kl_L_10 : Cond.classLink RL 10 RX10 ∈ pw_T := pw_in (pt_4 (List.mem_of_getElem? (i := 187) (by rfl))) (by rfl)
theorem ki_J2_227 : Cond.constant RJ2 227 (65536) ∈ pw_T := pw_in (pt_1 (List.mem_of_getElem? (i := 116) (by rfl))) (by rfl)
theorem ki_J11_110 : Cond.constant RJ11 110 (55232) ∈ pw_T := pw_in (pt_1 (List.mem_of_getElem? (i := 141) (by rfl))) (by rfl)
theorem ki_J11_76 : Cond.constant RJ11 76 (56320) ∈ pw_T := pw_in (pt_1 (List.mem_of_getElem? (i := 145) (by rfl))) (by rfl)
theorem ki_X3_62 : Cond.constant RX3 62 (1000000) ∈ pw_T := pw_in (pt_3 (List.mem_of_getElem? (i := 131) (by rfl))) (by rfl)
theorem ki_X10_7 : Cond.constant RX10 7 (40000) ∈ pw_T := pw_in (pt_4 (List.mem_of_getElem? (i := 193) (by rfl))) (by rfl)
theorem ki_X10_33 : Cond.constant RX10 33 (48000) ∈ pw_T := pw_in (pt_4 (List.mem_of_getElem? (i := 194) (by rfl))) (by rfl)
theorem ki_X10_156 : Cond.constant RX10 156 (40503) ∈ pw_T := pw_in (pt_6 (List.mem_of_getElem? (i := 6) (by rfl))) (by rfl)
theorem kj_X6_52 : Cond.constantLong RX6 52 (47) ∈ pw_T := pw_in (pt_1 (List.mem_of_getElem? (i := 146) (by rfl))) (by rfl)
theorem kj_X6_98 : Cond.constantLong RX6 98 (-7046029254386353131) ∈ pw_T := pw_in (pt_1 (List.mem_of_getElem? (i := 154) (by rfl))) (by rfl)
theorem kj_X6_100 : Cond.constantLong RX6 100 (-4658895280553007687) ∈ pw_T := pw_in (pt_1 (List.mem_of_getElem? (i := 155) (by rfl))) (by rfl)
theorem kj_X5_95 : Cond.constantLong RX5 95 (47) ∈ pw_T := pw_in (pt_3 (List.mem_of_getElem? (i := 3) (by rfl))) (by rfl)
theorem kj_X5_97 : Cond.constantLong RX5 97 (4611686018427387903) ∈ pw_T := pw_in (pt_3 (List.mem_of_getElem? (i := 4) (by rfl))) (by rfl)
theorem kj_X5_99 : Cond.constantLong RX5 99 (10) ∈ pw_T := pw_in (pt_3 (List.mem_of_getElem? (i := 5) (by rfl))) (by rfl)
theorem kj_X5_101 : Cond.constantLong RX5 101 (4611686018427387904) ∈ pw_T := pw_in (pt_3 (List.mem_of_getElem? (i := 6) (by rfl))) (by rfl)
theorem kj_X3_157 : Cond.constantLong RX3 157 (4611686018427387903) ∈ pw_T := pw_in (pt_3 (List.mem_of_getElem? (i := 219) (by rfl))) (by rfl)
theorem kj_X7_84 : Cond.constantLong RX7 84 (1000000000000000000) ∈ pw_T := pw_in (pt_4 (List.mem_of_getElem? (i := 144) (by rfl))) (by rfl)
theorem kj_X7_86 : Cond.constantLong RX7 86 (48) ∈ pw_T := pw_in (pt_4 (List.mem_of_getElem? (i := 145) (by rfl))) (by rfl)
theorem kj_X7_88 : Cond.constantLong RX7 88 (10) ∈ pw_T := pw_in (pt_4 (List.mem_of_getElem? (i := 146) (by rfl))) (by rfl)
theorem kj_X7_90 : Cond.constantLong RX7 90 (52599132235830049) ∈ pw_T := pw_in (pt_4 (List.mem_of_getElem? (i := 155) (by rfl))) (by rfl)
theorem kj_X7_94 : Cond.constantLong RX7 94 (47) ∈ pw_T := pw_in (pt_4 (List.mem_of_getElem? (i := 157) (by rfl))) (by rfl)
theorem kj_X10_226 : Cond.constantLong RX10 226 (4611686018427387903) ∈ pw_T := pw_in (pt_6 (List.mem_of_getElem? (i := 29) (by rfl))) (by rfl)
theorem kj_X10_228 : Cond.constantLong RX10 228 (10) ∈ pw_T := pw_in (pt_6 (List.mem_of_getElem? (i := 30) (by rfl))) (by rfl)
theorem kj_X10_230 : Cond.constantLong RX10 230 (48) ∈ pw_T := pw_in (pt_6 (List.mem_of_getElem? (i := 31) (by rfl))) (by rfl)
theorem my_X9_init : pw_YI yX9_init cX9_init 1 0 := ⟨⟨pw_in (pt_1 (List.mem_of_getElem? (i := 24) (by rfl))) (by rfl), pw_in (pt_1 (List.mem_of_getElem? (i := 1) (by rfl))) (by rfl), by decide +kernel, by decide +kernel, by decide +kernel⟩, pw_in (pt_1 (List.mem_of_getElem? (i := 23) (by rfl))) (by rfl), rfl⟩
theorem my_X6_init : pw_YI yX6_init cX6_init 5 0 := ⟨⟨pw_in (pt_1 (List.mem_of_getElem? (i := 32) (by rfl))) (by rfl), pw_in (pt_1 (List.mem_of_getElem? (i := 2) (by rfl))) (by rfl), by decide +kernel, by decide +kernel, by decide +kernel⟩, pw_in (pt_1 (List.mem_of_getElem? (i := 31) (by rfl))) (by rfl), rfl⟩
theorem my_J7_fill_53178 : pw_YS yJ7_fill_53178 cJ7_fill_53178 4 none 2 := ⟨⟨pw_in (pt_1 (List.mem_of_getElem? (i := 36) (by rfl))) (by rfl), pw_in (pt_1 (List.mem_of_getElem? (i := 3) (by rfl))) (by rfl), by decide +kernel, by decide +kernel, by decide +kernel⟩, pw_in (pt_1 (List.mem_of_getElem? (i := 35) (by rfl))) (by rfl)⟩
theorem my_J0_length_8abf5 : pw_YV yJ0_length_8abf5 cJ0_length_8abf5 1 (some .int) 0 := ⟨⟨pw_in (pt_1 (List.mem_of_getElem? (i := 41) (by rfl))) (by rfl), pw_in (pt_1 (List.mem_of_getElem? (i := 4) (by rfl))) (by rfl), by decide +kernel, by decide +kernel, by decide +kernel⟩, pw_in (pt_1 (List.mem_of_getElem? (i := 39) (by rfl))) (by rfl), pw_in (pt_1 (List.mem_of_getElem? (i := 40) (by rfl))) (by rfl)⟩
theorem my_J0_coder_7d493 : pw_YV yJ0_coder_7d493 cJ0_coder_7d493 1 (some .byte) 0 := ⟨⟨pw_in (pt_1 (List.mem_of_getElem? (i := 45) (by rfl))) (by rfl), pw_in (pt_1 (List.mem_of_getElem? (i := 4) (by rfl))) (by rfl), by decide +kernel, by decide +kernel, by decide +kernel⟩, pw_in (pt_1 (List.mem_of_getElem? (i := 43) (by rfl))) (by rfl), pw_in (pt_1 (List.mem_of_getElem? (i := 44) (by rfl))) (by rfl)⟩
theorem my_J0_charAt_5068e : pw_YV yJ0_charAt_5068e cJ0_charAt_5068e 2 (some .char) 1 := ⟨⟨pw_in (pt_1 (List.mem_of_getElem? (i := 52) (by rfl))) (by rfl), pw_in (pt_1 (List.mem_of_getElem? (i := 4) (by rfl))) (by rfl), by decide +kernel, by decide +kernel, by decide +kernel⟩, pw_in (pt_1 (List.mem_of_getElem? (i := 50) (by rfl))) (by rfl), pw_in (pt_1 (List.mem_of_getElem? (i := 51) (by rfl))) (by rfl)⟩
theorem my_J0_isLatin1_aae02 : pw_YV yJ0_isLatin1_aae02 cJ0_isLatin1_aae02 1 (some .boolean) 0 := ⟨⟨pw_in (pt_1 (List.mem_of_getElem? (i := 56) (by rfl))) (by rfl), pw_in (pt_1 (List.mem_of_getElem? (i := 4) (by rfl))) (by rfl), by decide +kernel, by decide +kernel, by decide +kernel⟩, pw_in (pt_1 (List.mem_of_getElem? (i := 54) (by rfl))) (by rfl), pw_in (pt_1 (List.mem_of_getElem? (i := 55) (by rfl))) (by rfl)⟩
theorem my_J1_charAt_3b067 : pw_YS yJ1_charAt_3b067 cJ1_charAt_3b067 2 (some .char) 2 := ⟨⟨pw_in (pt_1 (List.mem_of_getElem? (i := 59) (by rfl))) (by rfl), pw_in (pt_1 (List.mem_of_getElem? (i := 5) (by rfl))) (by rfl), by decide +kernel, by decide +kernel, by decide +kernel⟩, pw_in (pt_1 (List.mem_of_getElem? (i := 58) (by rfl))) (by rfl)⟩
theorem my_J0_checkIndex_df160 : pw_YS yJ0_checkIndex_df160 cJ0_checkIndex_df160 2 none 2 := ⟨⟨pw_in (pt_1 (List.mem_of_getElem? (i := 62) (by rfl))) (by rfl), pw_in (pt_1 (List.mem_of_getElem? (i := 4) (by rfl))) (by rfl), by decide +kernel, by decide +kernel, by decide +kernel⟩, pw_in (pt_1 (List.mem_of_getElem? (i := 61) (by rfl))) (by rfl)⟩
theorem my_J3_checkIndex_8e157 : pw_YS yJ3_checkIndex_8e157 cJ3_checkIndex_8e157 3 (some .int) 3 := ⟨⟨pw_in (pt_1 (List.mem_of_getElem? (i := 67) (by rfl))) (by rfl), pw_in (pt_1 (List.mem_of_getElem? (i := 6) (by rfl))) (by rfl), by decide +kernel, by decide +kernel, by decide +kernel⟩, pw_in (pt_1 (List.mem_of_getElem? (i := 66) (by rfl))) (by rfl)⟩
theorem my_J2_charAt_3b067 : pw_YS yJ2_charAt_3b067 cJ2_charAt_3b067 2 (some .char) 2 := ⟨⟨pw_in (pt_1 (List.mem_of_getElem? (i := 70) (by rfl))) (by rfl), pw_in (pt_1 (List.mem_of_getElem? (i := 7) (by rfl))) (by rfl), by decide +kernel, by decide +kernel, by decide +kernel⟩, pw_in (pt_1 (List.mem_of_getElem? (i := 69) (by rfl))) (by rfl)⟩
theorem my_J2_checkIndex_2214a : pw_YS yJ2_checkIndex_2214a cJ2_checkIndex_2214a 2 none 2 := ⟨⟨pw_in (pt_1 (List.mem_of_getElem? (i := 73) (by rfl))) (by rfl), pw_in (pt_1 (List.mem_of_getElem? (i := 7) (by rfl))) (by rfl), by decide +kernel, by decide +kernel, by decide +kernel⟩, pw_in (pt_1 (List.mem_of_getElem? (i := 72) (by rfl))) (by rfl)⟩
theorem my_J2_length_9d52b : pw_YS yJ2_length_9d52b cJ2_length_9d52b 1 (some .int) 1 := ⟨⟨pw_in (pt_1 (List.mem_of_getElem? (i := 76) (by rfl))) (by rfl), pw_in (pt_1 (List.mem_of_getElem? (i := 7) (by rfl))) (by rfl), by decide +kernel, by decide +kernel, by decide +kernel⟩, pw_in (pt_1 (List.mem_of_getElem? (i := 75) (by rfl))) (by rfl)⟩
theorem my_J2_getChar_3b067 : pw_YS yJ2_getChar_3b067 cJ2_getChar_3b067 2 (some .char) 2 := ⟨⟨pw_in (pt_1 (List.mem_of_getElem? (i := 80) (by rfl))) (by rfl), pw_in (pt_1 (List.mem_of_getElem? (i := 7) (by rfl))) (by rfl), by decide +kernel, by decide +kernel, by decide +kernel⟩, pw_in (pt_1 (List.mem_of_getElem? (i := 79) (by rfl))) (by rfl)⟩
theorem my_J0_indexOf_0f7a4 : pw_YV yJ0_indexOf_0f7a4 cJ0_indexOf_0f7a4 2 (some .int) 1 := ⟨⟨pw_in (pt_1 (List.mem_of_getElem? (i := 90) (by rfl))) (by rfl), pw_in (pt_1 (List.mem_of_getElem? (i := 4) (by rfl))) (by rfl), by decide +kernel, by decide +kernel, by decide +kernel⟩, pw_in (pt_1 (List.mem_of_getElem? (i := 88) (by rfl))) (by rfl), pw_in (pt_1 (List.mem_of_getElem? (i := 89) (by rfl))) (by rfl)⟩
theorem my_J0_indexOf_7cf53 : pw_YV yJ0_indexOf_7cf53 cJ0_indexOf_7cf53 3 (some .int) 2 := ⟨⟨pw_in (pt_1 (List.mem_of_getElem? (i := 94) (by rfl))) (by rfl), pw_in (pt_1 (List.mem_of_getElem? (i := 4) (by rfl))) (by rfl), by decide +kernel, by decide +kernel, by decide +kernel⟩, pw_in (pt_1 (List.mem_of_getElem? (i := 92) (by rfl))) (by rfl), pw_in (pt_1 (List.mem_of_getElem? (i := 93) (by rfl))) (by rfl)⟩
theorem my_J1_indexOf_4cfef : pw_YS yJ1_indexOf_4cfef cJ1_indexOf_4cfef 4 (some .int) 4 := ⟨⟨pw_in (pt_1 (List.mem_of_getElem? (i := 98) (by rfl))) (by rfl), pw_in (pt_1 (List.mem_of_getElem? (i := 5) (by rfl))) (by rfl), by decide +kernel, by decide +kernel, by decide +kernel⟩, pw_in (pt_1 (List.mem_of_getElem? (i := 97) (by rfl))) (by rfl)⟩
theorem my_J1_canEncode_9a6ad : pw_YS yJ1_canEncode_9a6ad cJ1_canEncode_9a6ad 1 (some .boolean) 1 := ⟨⟨pw_in (pt_1 (List.mem_of_getElem? (i := 101) (by rfl))) (by rfl), pw_in (pt_1 (List.mem_of_getElem? (i := 5) (by rfl))) (by rfl), by decide +kernel, by decide +kernel, by decide +kernel⟩, pw_in (pt_1 (List.mem_of_getElem? (i := 100) (by rfl))) (by rfl)⟩
theorem my_J9_max_7cf53 : pw_YS yJ9_max_7cf53 cJ9_max_7cf53 2 (some .int) 2 := ⟨⟨pw_in (pt_1 (List.mem_of_getElem? (i := 104) (by rfl))) (by rfl), pw_in (pt_1 (List.mem_of_getElem? (i := 8) (by rfl))) (by rfl), by decide +kernel, by decide +kernel, by decide +kernel⟩, pw_in (pt_1 (List.mem_of_getElem? (i := 103) (by rfl))) (by rfl)⟩
theorem my_J9_min_7cf53 : pw_YS yJ9_min_7cf53 cJ9_min_7cf53 2 (some .int) 2 := ⟨⟨pw_in (pt_1 (List.mem_of_getElem? (i := 107) (by rfl))) (by rfl), pw_in (pt_1 (List.mem_of_getElem? (i := 8) (by rfl))) (by rfl), by decide +kernel, by decide +kernel, by decide +kernel⟩, pw_in (pt_1 (List.mem_of_getElem? (i := 106) (by rfl))) (by rfl)⟩
theorem my_J1_indexOfChar_4cfef : pw_YS yJ1_indexOfChar_4cfef cJ1_indexOfChar_4cfef 6 (some .int) 4 := ⟨⟨pw_in (pt_1 (List.mem_of_getElem? (i := 110) (by rfl))) (by rfl), pw_in (pt_1 (List.mem_of_getElem? (i := 5) (by rfl))) (by rfl), by decide +kernel, by decide +kernel, by decide +kernel⟩, pw_in (pt_1 (List.mem_of_getElem? (i := 109) (by rfl))) (by rfl)⟩
theorem my_J2_indexOf_4cfef : pw_YS yJ2_indexOf_4cfef cJ2_indexOf_4cfef 4 (some .int) 4 := ⟨⟨pw_in (pt_1 (List.mem_of_getElem? (i := 113) (by rfl))) (by rfl), pw_in (pt_1 (List.mem_of_getElem? (i := 7) (by rfl))) (by rfl), by decide +kernel, by decide +kernel, by decide +kernel⟩, pw_in (pt_1 (List.mem_of_getElem? (i := 112) (by rfl))) (by rfl)⟩
theorem my_J2_indexOfChar_4cfef : pw_YS yJ2_indexOfChar_4cfef cJ2_indexOfChar_4cfef 4 (some .int) 4 := ⟨⟨pw_in (pt_1 (List.mem_of_getElem? (i := 119) (by rfl))) (by rfl), pw_in (pt_1 (List.mem_of_getElem? (i := 7) (by rfl))) (by rfl), by decide +kernel, by decide +kernel, by decide +kernel⟩, pw_in (pt_1 (List.mem_of_getElem? (i := 118) (by rfl))) (by rfl)⟩
theorem my_J2_checkBoundsBeginEnd_d044e : pw_YS yJ2_checkBoundsBeginEnd_d044e cJ2_checkBoundsBeginEnd_d044e 3 none 3 := ⟨⟨pw_in (pt_1 (List.mem_of_getElem? (i := 122) (by rfl))) (by rfl), pw_in (pt_1 (List.mem_of_getElem? (i := 7) (by rfl))) (by rfl), by decide +kernel, by decide +kernel, by decide +kernel⟩, pw_in (pt_1 (List.mem_of_getElem? (i := 121) (by rfl))) (by rfl)⟩
theorem my_J0_checkBoundsBeginEnd_23922 : pw_YS yJ0_checkBoundsBeginEnd_23922 cJ0_checkBoundsBeginEnd_23922 3 none 3 := ⟨⟨pw_in (pt_1 (List.mem_of_getElem? (i := 125) (by rfl))) (by rfl), pw_in (pt_1 (List.mem_of_getElem? (i := 4) (by rfl))) (by rfl), by decide +kernel, by decide +kernel, by decide +kernel⟩, pw_in (pt_1 (List.mem_of_getElem? (i := 124) (by rfl))) (by rfl)⟩
theorem my_J3_checkFromToIndex_8c36e : pw_YS yJ3_checkFromToIndex_8c36e cJ3_checkFromToIndex_8c36e 4 (some .int) 4 := ⟨⟨pw_in (pt_1 (List.mem_of_getElem? (i := 128) (by rfl))) (by rfl), pw_in (pt_1 (List.mem_of_getElem? (i := 6) (by rfl))) (by rfl), by decide +kernel, by decide +kernel, by decide +kernel⟩, pw_in (pt_1 (List.mem_of_getElem? (i := 127) (by rfl))) (by rfl)⟩
theorem my_J2_indexOfCharUnsafe_4cfef : pw_YS yJ2_indexOfCharUnsafe_4cfef cJ2_indexOfCharUnsafe_4cfef 5 (some .int) 4 := ⟨⟨pw_in (pt_1 (List.mem_of_getElem? (i := 131) (by rfl))) (by rfl), pw_in (pt_1 (List.mem_of_getElem? (i := 7) (by rfl))) (by rfl), by decide +kernel, by decide +kernel, by decide +kernel⟩, pw_in (pt_1 (List.mem_of_getElem? (i := 130) (by rfl))) (by rfl)⟩
theorem my_J2_indexOfSupplementary_4cfef : pw_YS yJ2_indexOfSupplementary_4cfef cJ2_indexOfSupplementary_4cfef 7 (some .int) 4 := ⟨⟨pw_in (pt_1 (List.mem_of_getElem? (i := 134) (by rfl))) (by rfl), pw_in (pt_1 (List.mem_of_getElem? (i := 7) (by rfl))) (by rfl), by decide +kernel, by decide +kernel, by decide +kernel⟩, pw_in (pt_1 (List.mem_of_getElem? (i := 133) (by rfl))) (by rfl)⟩
theorem my_J11_isValidCodePoint_9a6ad : pw_YS yJ11_isValidCodePoint_9a6ad cJ11_isValidCodePoint_9a6ad 2 (some .boolean) 1 := ⟨⟨pw_in (pt_1 (List.mem_of_getElem? (i := 137) (by rfl))) (by rfl), pw_in (pt_1 (List.mem_of_getElem? (i := 9) (by rfl))) (by rfl), by decide +kernel, by decide +kernel, by decide +kernel⟩, pw_in (pt_1 (List.mem_of_getElem? (i := 136) (by rfl))) (by rfl)⟩
theorem my_J11_highSurrogate_5068e : pw_YS yJ11_highSurrogate_5068e cJ11_highSurrogate_5068e 1 (some .char) 1 := ⟨⟨pw_in (pt_1 (List.mem_of_getElem? (i := 140) (by rfl))) (by rfl), pw_in (pt_1 (List.mem_of_getElem? (i := 9) (by rfl))) (by rfl), by decide +kernel, by decide +kernel, by decide +kernel⟩, pw_in (pt_1 (List.mem_of_getElem? (i := 139) (by rfl))) (by rfl)⟩
theorem my_J11_lowSurrogate_5068e : pw_YS yJ11_lowSurrogate_5068e cJ11_lowSurrogate_5068e 1 (some .char) 1 := ⟨⟨pw_in (pt_1 (List.mem_of_getElem? (i := 144) (by rfl))) (by rfl), pw_in (pt_1 (List.mem_of_getElem? (i := 9) (by rfl))) (by rfl), by decide +kernel, by decide +kernel, by decide +kernel⟩, pw_in (pt_1 (List.mem_of_getElem? (i := 143) (by rfl))) (by rfl)⟩
theorem my_X6_hold : pw_YV yX6_hold cX6_hold 8 (some .int) 3 := ⟨⟨pw_in (pt_1 (List.mem_of_getElem? (i := 150) (by rfl))) (by rfl), pw_in (pt_1 (List.mem_of_getElem? (i := 2) (by rfl))) (by rfl), by decide +kernel, by decide +kernel, by decide +kernel⟩, pw_in (pt_1 (List.mem_of_getElem? (i := 149) (by rfl))) (by rfl), pw_in (pt_0 (List.mem_of_getElem? (i := 0) (by rfl))) (by rfl)⟩
theorem my_X6_bucketOf : pw_YS yX6_bucketOf cX6_bucketOf 5 (some .int) 2 := ⟨⟨pw_in (pt_1 (List.mem_of_getElem? (i := 153) (by rfl))) (by rfl), pw_in (pt_1 (List.mem_of_getElem? (i := 2) (by rfl))) (by rfl), by decide +kernel, by decide +kernel, by decide +kernel⟩, pw_in (pt_1 (List.mem_of_getElem? (i := 152) (by rfl))) (by rfl)⟩
theorem my_X5_init : pw_YI yX5_init cX5_init 2 1 := ⟨⟨pw_in (pt_1 (List.mem_of_getElem? (i := 183) (by rfl))) (by rfl), pw_in (pt_1 (List.mem_of_getElem? (i := 10) (by rfl))) (by rfl), by decide +kernel, by decide +kernel, by decide +kernel⟩, pw_in (pt_1 (List.mem_of_getElem? (i := 182) (by rfl))) (by rfl), rfl⟩
theorem my_X7_init : pw_YI yX7_init cX7_init 2 1 := ⟨⟨pw_in (pt_1 (List.mem_of_getElem? (i := 236) (by rfl))) (by rfl), pw_in (pt_1 (List.mem_of_getElem? (i := 11) (by rfl))) (by rfl), by decide +kernel, by decide +kernel, by decide +kernel⟩, pw_in (pt_1 (List.mem_of_getElem? (i := 235) (by rfl))) (by rfl), rfl⟩
theorem my_X4_init : pw_YI yX4_init cX4_init 1 0 := ⟨⟨pw_in (pt_2 (List.mem_of_getElem? (i := 19) (by rfl))) (by rfl), pw_in (pt_1 (List.mem_of_getElem? (i := 12) (by rfl))) (by rfl), by decide +kernel, by decide +kernel, by decide +kernel⟩, pw_in (pt_2 (List.mem_of_getElem? (i := 18) (by rfl))) (by rfl), rfl⟩
theorem my_X3_init : pw_YI yX3_init cX3_init 3 2 := ⟨⟨pw_in (pt_2 (List.mem_of_getElem? (i := 36) (by rfl))) (by rfl), pw_in (pt_1 (List.mem_of_getElem? (i := 13) (by rfl))) (by rfl), by decide +kernel, by decide +kernel, by decide +kernel⟩, pw_in (pt_2 (List.mem_of_getElem? (i := 35) (by rfl))) (by rfl), rfl⟩
theorem my_X1_init : pw_YI yX1_init cX1_init 4 3 := ⟨⟨pw_in (pt_2 (List.mem_of_getElem? (i := 85) (by rfl))) (by rfl), pw_in (pt_1 (List.mem_of_getElem? (i := 14) (by rfl))) (by rfl), by decide +kernel, by decide +kernel, by decide +kernel⟩, pw_in (pt_2 (List.mem_of_getElem? (i := 84) (by rfl))) (by rfl), rfl⟩
theorem my_X8_init : pw_YI yX8_init cX8_init 3 2 := ⟨⟨pw_in (pt_2 (List.mem_of_getElem? (i := 91) (by rfl))) (by rfl), pw_in (pt_1 (List.mem_of_getElem? (i := 15) (by rfl))) (by rfl), by decide +kernel, by decide +kernel, by decide +kernel⟩, pw_in (pt_2 (List.mem_of_getElem? (i := 90) (by rfl))) (by rfl), rfl⟩
theorem my_X9_feed : pw_YV yX9_feed cX9_feed 6 none 5 := ⟨⟨pw_in (pt_2 (List.mem_of_getElem? (i := 152) (by rfl))) (by rfl), pw_in (pt_1 (List.mem_of_getElem? (i := 1) (by rfl))) (by rfl), by decide +kernel, by decide +kernel, by decide +kernel⟩, pw_in (pt_2 (List.mem_of_getElem? (i := 150) (by rfl))) (by rfl), pw_in (pt_2 (List.mem_of_getElem? (i := 151) (by rfl))) (by rfl)⟩
theorem my_X9_end : pw_YV yX9_end cX9_end 3 (some .int) 1 := ⟨⟨pw_in (pt_2 (List.mem_of_getElem? (i := 156) (by rfl))) (by rfl), pw_in (pt_1 (List.mem_of_getElem? (i := 1) (by rfl))) (by rfl), by decide +kernel, by decide +kernel, by decide +kernel⟩, pw_in (pt_2 (List.mem_of_getElem? (i := 154) (by rfl))) (by rfl), pw_in (pt_2 (List.mem_of_getElem? (i := 155) (by rfl))) (by rfl)⟩
theorem my_X5_append : pw_YV yX5_append cX5_append 2 none 1 := ⟨⟨pw_in (pt_2 (List.mem_of_getElem? (i := 160) (by rfl))) (by rfl), pw_in (pt_1 (List.mem_of_getElem? (i := 10) (by rfl))) (by rfl), by decide +kernel, by decide +kernel, by decide +kernel⟩, pw_in (pt_2 (List.mem_of_getElem? (i := 158) (by rfl))) (by rfl), pw_in (pt_2 (List.mem_of_getElem? (i := 159) (by rfl))) (by rfl)⟩
theorem my_X9_fuel : pw_YV yX9_fuel cX9_fuel 3 (some .int) 1 := ⟨⟨pw_in (pt_2 (List.mem_of_getElem? (i := 165) (by rfl))) (by rfl), pw_in (pt_1 (List.mem_of_getElem? (i := 1) (by rfl))) (by rfl), by decide +kernel, by decide +kernel, by decide +kernel⟩, pw_in (pt_2 (List.mem_of_getElem? (i := 163) (by rfl))) (by rfl), pw_in (pt_2 (List.mem_of_getElem? (i := 164) (by rfl))) (by rfl)⟩
theorem my_X9_run : pw_YV yX9_run cX9_run 3 (some .int) 0 := ⟨⟨pw_in (pt_2 (List.mem_of_getElem? (i := 169) (by rfl))) (by rfl), pw_in (pt_1 (List.mem_of_getElem? (i := 1) (by rfl))) (by rfl), by decide +kernel, by decide +kernel, by decide +kernel⟩, pw_in (pt_2 (List.mem_of_getElem? (i := 167) (by rfl))) (by rfl), pw_in (pt_2 (List.mem_of_getElem? (i := 168) (by rfl))) (by rfl)⟩
theorem my_X7_clear : pw_YV yX7_clear cX7_clear 1 none 0 := ⟨⟨pw_in (pt_2 (List.mem_of_getElem? (i := 173) (by rfl))) (by rfl), pw_in (pt_1 (List.mem_of_getElem? (i := 11) (by rfl))) (by rfl), by decide +kernel, by decide +kernel, by decide +kernel⟩, pw_in (pt_2 (List.mem_of_getElem? (i := 171) (by rfl))) (by rfl), pw_in (pt_2 (List.mem_of_getElem? (i := 172) (by rfl))) (by rfl)⟩
theorem my_X3_clear : pw_YV yX3_clear cX3_clear 1 none 0 := ⟨⟨pw_in (pt_2 (List.mem_of_getElem? (i := 177) (by rfl))) (by rfl), pw_in (pt_1 (List.mem_of_getElem? (i := 13) (by rfl))) (by rfl), by decide +kernel, by decide +kernel, by decide +kernel⟩, pw_in (pt_2 (List.mem_of_getElem? (i := 175) (by rfl))) (by rfl), pw_in (pt_2 (List.mem_of_getElem? (i := 176) (by rfl))) (by rfl)⟩
theorem my_X6_forgetFrom : pw_YV yX6_forgetFrom cX6_forgetFrom 3 none 1 := ⟨⟨pw_in (pt_2 (List.mem_of_getElem? (i := 181) (by rfl))) (by rfl), pw_in (pt_1 (List.mem_of_getElem? (i := 2) (by rfl))) (by rfl), by decide +kernel, by decide +kernel, by decide +kernel⟩, pw_in (pt_2 (List.mem_of_getElem? (i := 179) (by rfl))) (by rfl), pw_in (pt_2 (List.mem_of_getElem? (i := 180) (by rfl))) (by rfl)⟩
theorem my_X1_roomFor : pw_YV yX1_roomFor cX1_roomFor 2 (some .int) 1 := ⟨⟨pw_in (pt_2 (List.mem_of_getElem? (i := 185) (by rfl))) (by rfl), pw_in (pt_1 (List.mem_of_getElem? (i := 14) (by rfl))) (by rfl), by decide +kernel, by decide +kernel, by decide +kernel⟩, pw_in (pt_2 (List.mem_of_getElem? (i := 183) (by rfl))) (by rfl), pw_in (pt_2 (List.mem_of_getElem? (i := 184) (by rfl))) (by rfl)⟩
theorem my_X6_makeRoom : pw_YV yX6_makeRoom cX6_makeRoom 3 (some .boolean) 1 := ⟨⟨pw_in (pt_2 (List.mem_of_getElem? (i := 190) (by rfl))) (by rfl), pw_in (pt_1 (List.mem_of_getElem? (i := 2) (by rfl))) (by rfl), by decide +kernel, by decide +kernel, by decide +kernel⟩, pw_in (pt_2 (List.mem_of_getElem? (i := 188) (by rfl))) (by rfl), pw_in (pt_2 (List.mem_of_getElem? (i := 189) (by rfl))) (by rfl)⟩
theorem my_J7_copyOf_c38d5 : pw_YS yJ7_copyOf_c38d5 cJ7_copyOf_c38d5 3 (some (.array .long)) 2 := ⟨⟨pw_in (pt_2 (List.mem_of_getElem? (i := 193) (by rfl))) (by rfl), pw_in (pt_1 (List.mem_of_getElem? (i := 3) (by rfl))) (by rfl), by decide +kernel, by decide +kernel, by decide +kernel⟩, pw_in (pt_2 (List.mem_of_getElem? (i := 192) (by rfl))) (by rfl)⟩
theorem my_J7_copyOf_59c91 : pw_YS yJ7_copyOf_59c91 cJ7_copyOf_59c91 3 (some (.array .int)) 2 := ⟨⟨pw_in (pt_2 (List.mem_of_getElem? (i := 207) (by rfl))) (by rfl), pw_in (pt_1 (List.mem_of_getElem? (i := 3) (by rfl))) (by rfl), by decide +kernel, by decide +kernel, by decide +kernel⟩, pw_in (pt_2 (List.mem_of_getElem? (i := 206) (by rfl))) (by rfl)⟩
theorem my_X5_clear : pw_YV yX5_clear cX5_clear 1 none 0 := ⟨⟨pw_in (pt_2 (List.mem_of_getElem? (i := 216) (by rfl))) (by rfl), pw_in (pt_1 (List.mem_of_getElem? (i := 10) (by rfl))) (by rfl), by decide +kernel, by decide +kernel, by decide +kernel⟩, pw_in (pt_2 (List.mem_of_getElem? (i := 214) (by rfl))) (by rfl), pw_in (pt_2 (List.mem_of_getElem? (i := 215) (by rfl))) (by rfl)⟩
theorem my_X5_read : pw_YV yX5_read cX5_read 5 (some .int) 0 := ⟨⟨pw_in (pt_2 (List.mem_of_getElem? (i := 220) (by rfl))) (by rfl), pw_in (pt_1 (List.mem_of_getElem? (i := 10) (by rfl))) (by rfl), by decide +kernel, by decide +kernel, by decide +kernel⟩, pw_in (pt_2 (List.mem_of_getElem? (i := 218) (by rfl))) (by rfl), pw_in (pt_2 (List.mem_of_getElem? (i := 219) (by rfl))) (by rfl)⟩
theorem my_X5_behindBlanks : pw_YV yX5_behindBlanks cX5_behindBlanks 6 (some .int) 2 := ⟨⟨pw_in (pt_2 (List.mem_of_getElem? (i := 225) (by rfl))) (by rfl), pw_in (pt_1 (List.mem_of_getElem? (i := 10) (by rfl))) (by rfl), by decide +kernel, by decide +kernel, by decide +kernel⟩, pw_in (pt_2 (List.mem_of_getElem? (i := 224) (by rfl))) (by rfl), pw_in (pt_0 (List.mem_of_getElem? (i := 1) (by rfl))) (by rfl)⟩
theorem my_X5_behindWord : pw_YV yX5_behindWord cX5_behindWord 4 (some .int) 2 := ⟨⟨pw_in (pt_2 (List.mem_of_getElem? (i := 229) (by rfl))) (by rfl), pw_in (pt_1 (List.mem_of_getElem? (i := 10) (by rfl))) (by rfl), by decide +kernel, by decide +kernel, by decide +kernel⟩, pw_in (pt_2 (List.mem_of_getElem? (i := 228) (by rfl))) (by rfl), pw_in (pt_0 (List.mem_of_getElem? (i := 2) (by rfl))) (by rfl)⟩
theorem my_X5_isAtomLetter : pw_YS yX5_isAtomLetter cX5_isAtomLetter 1 (some .boolean) 1 := ⟨⟨pw_in (pt_2 (List.mem_of_getElem? (i := 232) (by rfl))) (by rfl), pw_in (pt_1 (List.mem_of_getElem? (i := 10) (by rfl))) (by rfl), by decide +kernel, by decide +kernel, by decide +kernel⟩, pw_in (pt_2 (List.mem_of_getElem? (i := 231) (by rfl))) (by rfl)⟩
theorem my_X5_faultOfWord : pw_YV yX5_faultOfWord cX5_faultOfWord 5 (some .int) 2 := ⟨⟨pw_in (pt_2 (List.mem_of_getElem? (i := 238) (by rfl))) (by rfl), pw_in (pt_1 (List.mem_of_getElem? (i := 10) (by rfl))) (by rfl), by decide +kernel, by decide +kernel, by decide +kernel⟩, pw_in (pt_2 (List.mem_of_getElem? (i := 237) (by rfl))) (by rfl), pw_in (pt_0 (List.mem_of_getElem? (i := 3) (by rfl))) (by rfl)⟩
theorem my_X5_scanAtom : pw_YV yX5_scanAtom cX5_scanAtom 5 (some .boolean) 2 := ⟨⟨pw_in (pt_3 (List.mem_of_getElem? (i := 2) (by rfl))) (by rfl), pw_in (pt_1 (List.mem_of_getElem? (i := 10) (by rfl))) (by rfl), by decide +kernel, by decide +kernel, by decide +kernel⟩, pw_in (pt_3 (List.mem_of_getElem? (i := 1) (by rfl))) (by rfl), pw_in (pt_0 (List.mem_of_getElem? (i := 4) (by rfl))) (by rfl)⟩
theorem my_X5_mayStand : pw_YV yX5_mayStand cX5_mayStand 3 (some .boolean) 1 := ⟨⟨pw_in (pt_3 (List.mem_of_getElem? (i := 10) (by rfl))) (by rfl), pw_in (pt_1 (List.mem_of_getElem? (i := 10) (by rfl))) (by rfl), by decide +kernel, by decide +kernel, by decide +kernel⟩, pw_in (pt_3 (List.mem_of_getElem? (i := 9) (by rfl))) (by rfl), pw_in (pt_0 (List.mem_of_getElem? (i := 5) (by rfl))) (by rfl)⟩
theorem my_X5_take : pw_YV yX5_take cX5_take 2 none 1 := ⟨⟨pw_in (pt_3 (List.mem_of_getElem? (i := 14) (by rfl))) (by rfl), pw_in (pt_1 (List.mem_of_getElem? (i := 10) (by rfl))) (by rfl), by decide +kernel, by decide +kernel, by decide +kernel⟩, pw_in (pt_3 (List.mem_of_getElem? (i := 13) (by rfl))) (by rfl), pw_in (pt_0 (List.mem_of_getElem? (i := 6) (by rfl))) (by rfl)⟩
theorem my_X5_openAt : pw_YV yX5_openAt cX5_openAt 2 none 1 := ⟨⟨pw_in (pt_3 (List.mem_of_getElem? (i := 18) (by rfl))) (by rfl), pw_in (pt_1 (List.mem_of_getElem? (i := 10) (by rfl))) (by rfl), by decide +kernel, by decide +kernel, by decide +kernel⟩, pw_in (pt_3 (List.mem_of_getElem? (i := 17) (by rfl))) (by rfl), pw_in (pt_0 (List.mem_of_getElem? (i := 7) (by rfl))) (by rfl)⟩
theorem my_X5_closeList : pw_YV yX5_closeList cX5_closeList 2 none 0 := ⟨⟨pw_in (pt_3 (List.mem_of_getElem? (i := 22) (by rfl))) (by rfl), pw_in (pt_1 (List.mem_of_getElem? (i := 10) (by rfl))) (by rfl), by decide +kernel, by decide +kernel, by decide +kernel⟩, pw_in (pt_3 (List.mem_of_getElem? (i := 21) (by rfl))) (by rfl), pw_in (pt_0 (List.mem_of_getElem? (i := 8) (by rfl))) (by rfl)⟩
theorem my_X6_pair : pw_YV yX6_pair cX6_pair 3 (some .int) 2 := ⟨⟨pw_in (pt_3 (List.mem_of_getElem? (i := 26) (by rfl))) (by rfl), pw_in (pt_1 (List.mem_of_getElem? (i := 2) (by rfl))) (by rfl), by decide +kernel, by decide +kernel, by decide +kernel⟩, pw_in (pt_3 (List.mem_of_getElem? (i := 24) (by rfl))) (by rfl), pw_in (pt_3 (List.mem_of_getElem? (i := 25) (by rfl))) (by rfl)⟩
theorem my_X6_heightOf : pw_YV yX6_heightOf cX6_heightOf 2 (some .int) 1 := ⟨⟨pw_in (pt_3 (List.mem_of_getElem? (i := 30) (by rfl))) (by rfl), pw_in (pt_1 (List.mem_of_getElem? (i := 2) (by rfl))) (by rfl), by decide +kernel, by decide +kernel, by decide +kernel⟩, pw_in (pt_3 (List.mem_of_getElem? (i := 28) (by rfl))) (by rfl), pw_in (pt_3 (List.mem_of_getElem? (i := 29) (by rfl))) (by rfl)⟩
theorem my_X5_finish : pw_YV yX5_finish cX5_finish 3 none 1 := ⟨⟨pw_in (pt_3 (List.mem_of_getElem? (i := 35) (by rfl))) (by rfl), pw_in (pt_1 (List.mem_of_getElem? (i := 10) (by rfl))) (by rfl), by decide +kernel, by decide +kernel, by decide +kernel⟩, pw_in (pt_3 (List.mem_of_getElem? (i := 34) (by rfl))) (by rfl), pw_in (pt_0 (List.mem_of_getElem? (i := 9) (by rfl))) (by rfl)⟩
theorem my_X6_natural : pw_YV yX6_natural cX6_natural 3 (some .int) 1 := ⟨⟨pw_in (pt_3 (List.mem_of_getElem? (i := 39) (by rfl))) (by rfl), pw_in (pt_1 (List.mem_of_getElem? (i := 2) (by rfl))) (by rfl), by decide +kernel, by decide +kernel, by decide +kernel⟩, pw_in (pt_3 (List.mem_of_getElem? (i := 37) (by rfl))) (by rfl), pw_in (pt_3 (List.mem_of_getElem? (i := 38) (by rfl))) (by rfl)⟩
theorem my_X6_symbol : pw_YV yX6_symbol cX6_symbol 3 (some .int) 1 := ⟨⟨pw_in (pt_3 (List.mem_of_getElem? (i := 43) (by rfl))) (by rfl), pw_in (pt_1 (List.mem_of_getElem? (i := 2) (by rfl))) (by rfl), by decide +kernel, by decide +kernel, by decide +kernel⟩, pw_in (pt_3 (List.mem_of_getElem? (i := 41) (by rfl))) (by rfl), pw_in (pt_3 (List.mem_of_getElem? (i := 42) (by rfl))) (by rfl)⟩
theorem my_X1_perform : pw_YV yX1_perform cX1_perform 5 (some .int) 1 := ⟨⟨pw_in (pt_3 (List.mem_of_getElem? (i := 47) (by rfl))) (by rfl), pw_in (pt_1 (List.mem_of_getElem? (i := 14) (by rfl))) (by rfl), by decide +kernel, by decide +kernel, by decide +kernel⟩, pw_in (pt_3 (List.mem_of_getElem? (i := 45) (by rfl))) (by rfl), pw_in (pt_3 (List.mem_of_getElem? (i := 46) (by rfl))) (by rfl)⟩
theorem my_X6_lengthOf : pw_YV yX6_lengthOf cX6_lengthOf 4 (some .int) 1 := ⟨⟨pw_in (pt_3 (List.mem_of_getElem? (i := 51) (by rfl))) (by rfl), pw_in (pt_1 (List.mem_of_getElem? (i := 2) (by rfl))) (by rfl), by decide +kernel, by decide +kernel, by decide +kernel⟩, pw_in (pt_3 (List.mem_of_getElem? (i := 49) (by rfl))) (by rfl), pw_in (pt_3 (List.mem_of_getElem? (i := 50) (by rfl))) (by rfl)⟩
theorem my_X6_isPair : pw_YV yX6_isPair cX6_isPair 2 (some .boolean) 1 := ⟨⟨pw_in (pt_3 (List.mem_of_getElem? (i := 55) (by rfl))) (by rfl), pw_in (pt_1 (List.mem_of_getElem? (i := 2) (by rfl))) (by rfl), by decide +kernel, by decide +kernel, by decide +kernel⟩, pw_in (pt_3 (List.mem_of_getElem? (i := 53) (by rfl))) (by rfl), pw_in (pt_3 (List.mem_of_getElem? (i := 54) (by rfl))) (by rfl)⟩
theorem my_X6_tail : pw_YV yX6_tail cX6_tail 2 (some .int) 1 := ⟨⟨pw_in (pt_3 (List.mem_of_getElem? (i := 59) (by rfl))) (by rfl), pw_in (pt_1 (List.mem_of_getElem? (i := 2) (by rfl))) (by rfl), by decide +kernel, by decide +kernel, by decide +kernel⟩, pw_in (pt_3 (List.mem_of_getElem? (i := 57) (by rfl))) (by rfl), pw_in (pt_3 (List.mem_of_getElem? (i := 58) (by rfl))) (by rfl)⟩
theorem my_X6_second : pw_YV yX6_second cX6_second 2 (some .int) 1 := ⟨⟨pw_in (pt_3 (List.mem_of_getElem? (i := 63) (by rfl))) (by rfl), pw_in (pt_1 (List.mem_of_getElem? (i := 2) (by rfl))) (by rfl), by decide +kernel, by decide +kernel, by decide +kernel⟩, pw_in (pt_3 (List.mem_of_getElem? (i := 61) (by rfl))) (by rfl), pw_in (pt_3 (List.mem_of_getElem? (i := 62) (by rfl))) (by rfl)⟩
theorem my_X6_head : pw_YV yX6_head cX6_head 2 (some .int) 1 := ⟨⟨pw_in (pt_3 (List.mem_of_getElem? (i := 67) (by rfl))) (by rfl), pw_in (pt_1 (List.mem_of_getElem? (i := 2) (by rfl))) (by rfl), by decide +kernel, by decide +kernel, by decide +kernel⟩, pw_in (pt_3 (List.mem_of_getElem? (i := 65) (by rfl))) (by rfl), pw_in (pt_3 (List.mem_of_getElem? (i := 66) (by rfl))) (by rfl)⟩
theorem my_X6_third : pw_YV yX6_third cX6_third 2 (some .int) 1 := ⟨⟨pw_in (pt_3 (List.mem_of_getElem? (i := 71) (by rfl))) (by rfl), pw_in (pt_1 (List.mem_of_getElem? (i := 2) (by rfl))) (by rfl), by decide +kernel, by decide +kernel, by decide +kernel⟩, pw_in (pt_3 (List.mem_of_getElem? (i := 69) (by rfl))) (by rfl), pw_in (pt_3 (List.mem_of_getElem? (i := 70) (by rfl))) (by rfl)⟩
theorem my_X1_evaluate : pw_YV yX1_evaluate cX1_evaluate 5 (some .int) 3 := ⟨⟨pw_in (pt_3 (List.mem_of_getElem? (i := 76) (by rfl))) (by rfl), pw_in (pt_1 (List.mem_of_getElem? (i := 14) (by rfl))) (by rfl), by decide +kernel, by decide +kernel, by decide +kernel⟩, pw_in (pt_3 (List.mem_of_getElem? (i := 75) (by rfl))) (by rfl), pw_in (pt_0 (List.mem_of_getElem? (i := 10) (by rfl))) (by rfl)⟩
theorem my_X8_isTerm : pw_YV yX8_isTerm cX8_isTerm 9 (some .boolean) 4 := ⟨⟨pw_in (pt_3 (List.mem_of_getElem? (i := 80) (by rfl))) (by rfl), pw_in (pt_1 (List.mem_of_getElem? (i := 15) (by rfl))) (by rfl), by decide +kernel, by decide +kernel, by decide +kernel⟩, pw_in (pt_3 (List.mem_of_getElem? (i := 78) (by rfl))) (by rfl), pw_in (pt_3 (List.mem_of_getElem? (i := 79) (by rfl))) (by rfl)⟩
theorem my_X8_startWith : pw_YV yX8_startWith cX8_startWith 2 none 1 := ⟨⟨pw_in (pt_3 (List.mem_of_getElem? (i := 84) (by rfl))) (by rfl), pw_in (pt_1 (List.mem_of_getElem? (i := 15) (by rfl))) (by rfl), by decide +kernel, by decide +kernel, by decide +kernel⟩, pw_in (pt_3 (List.mem_of_getElem? (i := 83) (by rfl))) (by rfl), pw_in (pt_0 (List.mem_of_getElem? (i := 11) (by rfl))) (by rfl)⟩
theorem my_X6_isVariable : pw_YV yX6_isVariable cX6_isVariable 2 (some .boolean) 1 := ⟨⟨pw_in (pt_3 (List.mem_of_getElem? (i := 88) (by rfl))) (by rfl), pw_in (pt_1 (List.mem_of_getElem? (i := 2) (by rfl))) (by rfl), by decide +kernel, by decide +kernel, by decide +kernel⟩, pw_in (pt_3 (List.mem_of_getElem? (i := 86) (by rfl))) (by rfl), pw_in (pt_3 (List.mem_of_getElem? (i := 87) (by rfl))) (by rfl)⟩
theorem my_X6_isSymbol : pw_YV yX6_isSymbol cX6_isSymbol 2 (some .boolean) 1 := ⟨⟨pw_in (pt_3 (List.mem_of_getElem? (i := 92) (by rfl))) (by rfl), pw_in (pt_1 (List.mem_of_getElem? (i := 2) (by rfl))) (by rfl), by decide +kernel, by decide +kernel, by decide +kernel⟩, pw_in (pt_3 (List.mem_of_getElem? (i := 90) (by rfl))) (by rfl), pw_in (pt_3 (List.mem_of_getElem? (i := 91) (by rfl))) (by rfl)⟩
theorem my_X6_isElement : pw_YV yX6_isElement cX6_isElement 5 (some .boolean) 2 := ⟨⟨pw_in (pt_3 (List.mem_of_getElem? (i := 96) (by rfl))) (by rfl), pw_in (pt_1 (List.mem_of_getElem? (i := 2) (by rfl))) (by rfl), by decide +kernel, by decide +kernel, by decide +kernel⟩, pw_in (pt_3 (List.mem_of_getElem? (i := 94) (by rfl))) (by rfl), pw_in (pt_3 (List.mem_of_getElem? (i := 95) (by rfl))) (by rfl)⟩
theorem my_X6_isQuoted : pw_YV yX6_isQuoted cX6_isQuoted 2 (some .boolean) 1 := ⟨⟨pw_in (pt_3 (List.mem_of_getElem? (i := 101) (by rfl))) (by rfl), pw_in (pt_1 (List.mem_of_getElem? (i := 2) (by rfl))) (by rfl), by decide +kernel, by decide +kernel, by decide +kernel⟩, pw_in (pt_3 (List.mem_of_getElem? (i := 99) (by rfl))) (by rfl), pw_in (pt_3 (List.mem_of_getElem? (i := 100) (by rfl))) (by rfl)⟩
theorem my_X8_takesOf : pw_YV yX8_takesOf cX8_takesOf 3 (some .int) 1 := ⟨⟨pw_in (pt_3 (List.mem_of_getElem? (i := 106) (by rfl))) (by rfl), pw_in (pt_1 (List.mem_of_getElem? (i := 15) (by rfl))) (by rfl), by decide +kernel, by decide +kernel, by decide +kernel⟩, pw_in (pt_3 (List.mem_of_getElem? (i := 105) (by rfl))) (by rfl), pw_in (pt_0 (List.mem_of_getElem? (i := 12) (by rfl))) (by rfl)⟩
theorem my_X4_find : pw_YV yX4_find cX4_find 4 (some (.object "LispMachine$Definition")) 1 := ⟨⟨pw_in (pt_3 (List.mem_of_getElem? (i := 112) (by rfl))) (by rfl), pw_in (pt_1 (List.mem_of_getElem? (i := 12) (by rfl))) (by rfl), by decide +kernel, by decide +kernel, by decide +kernel⟩, pw_in (pt_3 (List.mem_of_getElem? (i := 110) (by rfl))) (by rfl), pw_in (pt_3 (List.mem_of_getElem? (i := 111) (by rfl))) (by rfl)⟩
theorem my_X8_addTermsOf : pw_YV yX8_addTermsOf cX8_addTermsOf 3 (some .boolean) 1 := ⟨⟨pw_in (pt_3 (List.mem_of_getElem? (i := 118) (by rfl))) (by rfl), pw_in (pt_1 (List.mem_of_getElem? (i := 15) (by rfl))) (by rfl), by decide +kernel, by decide +kernel, by decide +kernel⟩, pw_in (pt_3 (List.mem_of_getElem? (i := 117) (by rfl))) (by rfl), pw_in (pt_0 (List.mem_of_getElem? (i := 13) (by rfl))) (by rfl)⟩
theorem my_X3_beginWith : pw_YV yX3_beginWith cX3_beginWith 3 none 2 := ⟨⟨pw_in (pt_3 (List.mem_of_getElem? (i := 122) (by rfl))) (by rfl), pw_in (pt_1 (List.mem_of_getElem? (i := 13) (by rfl))) (by rfl), by decide +kernel, by decide +kernel, by decide +kernel⟩, pw_in (pt_3 (List.mem_of_getElem? (i := 120) (by rfl))) (by rfl), pw_in (pt_3 (List.mem_of_getElem? (i := 121) (by rfl))) (by rfl)⟩
theorem my_X3_evaluateNext : pw_YV yX3_evaluateNext cX3_evaluateNext 3 none 2 := ⟨⟨pw_in (pt_3 (List.mem_of_getElem? (i := 126) (by rfl))) (by rfl), pw_in (pt_1 (List.mem_of_getElem? (i := 13) (by rfl))) (by rfl), by decide +kernel, by decide +kernel, by decide +kernel⟩, pw_in (pt_3 (List.mem_of_getElem? (i := 125) (by rfl))) (by rfl), pw_in (pt_0 (List.mem_of_getElem? (i := 14) (by rfl))) (by rfl)⟩
theorem my_X3_finish : pw_YV yX3_finish cX3_finish 3 (some .int) 0 := ⟨⟨pw_in (pt_3 (List.mem_of_getElem? (i := 130) (by rfl))) (by rfl), pw_in (pt_1 (List.mem_of_getElem? (i := 13) (by rfl))) (by rfl), by decide +kernel, by decide +kernel, by decide +kernel⟩, pw_in (pt_3 (List.mem_of_getElem? (i := 128) (by rfl))) (by rfl), pw_in (pt_3 (List.mem_of_getElem? (i := 129) (by rfl))) (by rfl)⟩
theorem my_X3_beginTerm : pw_YV yX3_beginTerm cX3_beginTerm 1 none 0 := ⟨⟨pw_in (pt_3 (List.mem_of_getElem? (i := 135) (by rfl))) (by rfl), pw_in (pt_1 (List.mem_of_getElem? (i := 13) (by rfl))) (by rfl), by decide +kernel, by decide +kernel, by decide +kernel⟩, pw_in (pt_3 (List.mem_of_getElem? (i := 134) (by rfl))) (by rfl), pw_in (pt_0 (List.mem_of_getElem? (i := 15) (by rfl))) (by rfl)⟩
theorem my_X3_boundValueOf : pw_YV yX3_boundValueOf cX3_boundValueOf 4 (some .int) 1 := ⟨⟨pw_in (pt_3 (List.mem_of_getElem? (i := 140) (by rfl))) (by rfl), pw_in (pt_1 (List.mem_of_getElem? (i := 13) (by rfl))) (by rfl), by decide +kernel, by decide +kernel, by decide +kernel⟩, pw_in (pt_3 (List.mem_of_getElem? (i := 139) (by rfl))) (by rfl), pw_in (pt_0 (List.mem_of_getElem? (i := 16) (by rfl))) (by rfl)⟩
theorem my_X3_argumentOf : pw_YV yX3_argumentOf cX3_argumentOf 5 (some .int) 2 := ⟨⟨pw_in (pt_3 (List.mem_of_getElem? (i := 147) (by rfl))) (by rfl), pw_in (pt_1 (List.mem_of_getElem? (i := 13) (by rfl))) (by rfl), by decide +kernel, by decide +kernel, by decide +kernel⟩, pw_in (pt_3 (List.mem_of_getElem? (i := 146) (by rfl))) (by rfl), pw_in (pt_0 (List.mem_of_getElem? (i := 17) (by rfl))) (by rfl)⟩
theorem my_X3_answer : pw_YV yX3_answer cX3_answer 2 none 1 := ⟨⟨pw_in (pt_3 (List.mem_of_getElem? (i := 151) (by rfl))) (by rfl), pw_in (pt_1 (List.mem_of_getElem? (i := 13) (by rfl))) (by rfl), by decide +kernel, by decide +kernel, by decide +kernel⟩, pw_in (pt_3 (List.mem_of_getElem? (i := 150) (by rfl))) (by rfl), pw_in (pt_0 (List.mem_of_getElem? (i := 18) (by rfl))) (by rfl)⟩
theorem my_X3_openCall : pw_YV yX3_openCall cX3_openCall 4 none 2 := ⟨⟨pw_in (pt_3 (List.mem_of_getElem? (i := 156) (by rfl))) (by rfl), pw_in (pt_1 (List.mem_of_getElem? (i := 13) (by rfl))) (by rfl), by decide +kernel, by decide +kernel, by decide +kernel⟩, pw_in (pt_3 (List.mem_of_getElem? (i := 155) (by rfl))) (by rfl), pw_in (pt_0 (List.mem_of_getElem? (i := 19) (by rfl))) (by rfl)⟩
theorem my_X0_init : pw_YI yX0_init cX0_init 1 0 := ⟨⟨pw_in (pt_3 (List.mem_of_getElem? (i := 160) (by rfl))) (by rfl), pw_in (pt_1 (List.mem_of_getElem? (i := 18) (by rfl))) (by rfl), by decide +kernel, by decide +kernel, by decide +kernel⟩, pw_in (pt_3 (List.mem_of_getElem? (i := 159) (by rfl))) (by rfl), rfl⟩
theorem my_X0_start : pw_YV yX0_start cX0_start 5 none 4 := ⟨⟨pw_in (pt_3 (List.mem_of_getElem? (i := 194) (by rfl))) (by rfl), pw_in (pt_1 (List.mem_of_getElem? (i := 18) (by rfl))) (by rfl), by decide +kernel, by decide +kernel, by decide +kernel⟩, pw_in (pt_3 (List.mem_of_getElem? (i := 192) (by rfl))) (by rfl), pw_in (pt_3 (List.mem_of_getElem? (i := 193) (by rfl))) (by rfl)⟩
theorem my_X3_handOverValue : pw_YV yX3_handOverValue cX3_handOverValue 3 none 1 := ⟨⟨pw_in (pt_3 (List.mem_of_getElem? (i := 198) (by rfl))) (by rfl), pw_in (pt_1 (List.mem_of_getElem? (i := 13) (by rfl))) (by rfl), by decide +kernel, by decide +kernel, by decide +kernel⟩, pw_in (pt_3 (List.mem_of_getElem? (i := 197) (by rfl))) (by rfl), pw_in (pt_0 (List.mem_of_getElem? (i := 20) (by rfl))) (by rfl)⟩
theorem my_X0_add : pw_YV yX0_add cX0_add 2 none 1 := ⟨⟨pw_in (pt_3 (List.mem_of_getElem? (i := 202) (by rfl))) (by rfl), pw_in (pt_1 (List.mem_of_getElem? (i := 18) (by rfl))) (by rfl), by decide +kernel, by decide +kernel, by decide +kernel⟩, pw_in (pt_3 (List.mem_of_getElem? (i := 200) (by rfl))) (by rfl), pw_in (pt_3 (List.mem_of_getElem? (i := 201) (by rfl))) (by rfl)⟩
theorem my_X3_applyBase : pw_YV yX3_applyBase cX3_applyBase 6 none 1 := ⟨⟨pw_in (pt_3 (List.mem_of_getElem? (i := 206) (by rfl))) (by rfl), pw_in (pt_1 (List.mem_of_getElem? (i := 13) (by rfl))) (by rfl), by decide +kernel, by decide +kernel, by decide +kernel⟩, pw_in (pt_3 (List.mem_of_getElem? (i := 205) (by rfl))) (by rfl), pw_in (pt_0 (List.mem_of_getElem? (i := 21) (by rfl))) (by rfl)⟩
theorem my_X3_truth : pw_YS yX3_truth cX3_truth 1 (some .int) 1 := ⟨⟨pw_in (pt_3 (List.mem_of_getElem? (i := 209) (by rfl))) (by rfl), pw_in (pt_1 (List.mem_of_getElem? (i := 13) (by rfl))) (by rfl), by decide +kernel, by decide +kernel, by decide +kernel⟩, pw_in (pt_3 (List.mem_of_getElem? (i := 208) (by rfl))) (by rfl)⟩
theorem my_X6_amount : pw_YV yX6_amount cX6_amount 2 (some .long) 1 := ⟨⟨pw_in (pt_3 (List.mem_of_getElem? (i := 214) (by rfl))) (by rfl), pw_in (pt_1 (List.mem_of_getElem? (i := 2) (by rfl))) (by rfl), by decide +kernel, by decide +kernel, by decide +kernel⟩, pw_in (pt_3 (List.mem_of_getElem? (i := 212) (by rfl))) (by rfl), pw_in (pt_3 (List.mem_of_getElem? (i := 213) (by rfl))) (by rfl)⟩
theorem my_X6_isNatural : pw_YV yX6_isNatural cX6_isNatural 2 (some .boolean) 1 := ⟨⟨pw_in (pt_3 (List.mem_of_getElem? (i := 218) (by rfl))) (by rfl), pw_in (pt_1 (List.mem_of_getElem? (i := 2) (by rfl))) (by rfl), by decide +kernel, by decide +kernel, by decide +kernel⟩, pw_in (pt_3 (List.mem_of_getElem? (i := 216) (by rfl))) (by rfl), pw_in (pt_3 (List.mem_of_getElem? (i := 217) (by rfl))) (by rfl)⟩
theorem my_J9_max_f86c9 : pw_YS yJ9_max_f86c9 cJ9_max_f86c9 4 (some .long) 2 := ⟨⟨pw_in (pt_3 (List.mem_of_getElem? (i := 223) (by rfl))) (by rfl), pw_in (pt_1 (List.mem_of_getElem? (i := 8) (by rfl))) (by rfl), by decide +kernel, by decide +kernel, by decide +kernel⟩, pw_in (pt_3 (List.mem_of_getElem? (i := 222) (by rfl))) (by rfl)⟩
theorem my_X1_boundVariables : pw_YV yX1_boundVariables cX1_boundVariables 8 (some .int) 1 := ⟨⟨pw_in (pt_3 (List.mem_of_getElem? (i := 230) (by rfl))) (by rfl), pw_in (pt_1 (List.mem_of_getElem? (i := 14) (by rfl))) (by rfl), by decide +kernel, by decide +kernel, by decide +kernel⟩, pw_in (pt_3 (List.mem_of_getElem? (i := 229) (by rfl))) (by rfl), pw_in (pt_0 (List.mem_of_getElem? (i := 22) (by rfl))) (by rfl)⟩
theorem my_X1_map : pw_YV yX1_map cX1_map 9 (some .int) 2 := ⟨⟨pw_in (pt_3 (List.mem_of_getElem? (i := 238) (by rfl))) (by rfl), pw_in (pt_1 (List.mem_of_getElem? (i := 14) (by rfl))) (by rfl), by decide +kernel, by decide +kernel, by decide +kernel⟩, pw_in (pt_3 (List.mem_of_getElem? (i := 237) (by rfl))) (by rfl), pw_in (pt_0 (List.mem_of_getElem? (i := 23) (by rfl))) (by rfl)⟩
theorem my_X1_isFunctionName : pw_YV yX1_isFunctionName cX1_isFunctionName 2 (some .boolean) 1 := ⟨⟨pw_in (pt_4 (List.mem_of_getElem? (i := 2) (by rfl))) (by rfl), pw_in (pt_1 (List.mem_of_getElem? (i := 14) (by rfl))) (by rfl), by decide +kernel, by decide +kernel, by decide +kernel⟩, pw_in (pt_4 (List.mem_of_getElem? (i := 1) (by rfl))) (by rfl), pw_in (pt_0 (List.mem_of_getElem? (i := 24) (by rfl))) (by rfl)⟩
theorem my_X3_beginCall : pw_YV yX3_beginCall cX3_beginCall 3 none 2 := ⟨⟨pw_in (pt_4 (List.mem_of_getElem? (i := 8) (by rfl))) (by rfl), pw_in (pt_1 (List.mem_of_getElem? (i := 13) (by rfl))) (by rfl), by decide +kernel, by decide +kernel, by decide +kernel⟩, pw_in (pt_4 (List.mem_of_getElem? (i := 6) (by rfl))) (by rfl), pw_in (pt_4 (List.mem_of_getElem? (i := 7) (by rfl))) (by rfl)⟩
theorem my_X1_reversed : pw_YV yX1_reversed cX1_reversed 6 (some .int) 2 := ⟨⟨pw_in (pt_4 (List.mem_of_getElem? (i := 12) (by rfl))) (by rfl), pw_in (pt_1 (List.mem_of_getElem? (i := 14) (by rfl))) (by rfl), by decide +kernel, by decide +kernel, by decide +kernel⟩, pw_in (pt_4 (List.mem_of_getElem? (i := 11) (by rfl))) (by rfl), pw_in (pt_0 (List.mem_of_getElem? (i := 25) (by rfl))) (by rfl)⟩
theorem my_X6_fourth : pw_YV yX6_fourth cX6_fourth 2 (some .int) 1 := ⟨⟨pw_in (pt_4 (List.mem_of_getElem? (i := 16) (by rfl))) (by rfl), pw_in (pt_1 (List.mem_of_getElem? (i := 2) (by rfl))) (by rfl), by decide +kernel, by decide +kernel, by decide +kernel⟩, pw_in (pt_4 (List.mem_of_getElem? (i := 14) (by rfl))) (by rfl), pw_in (pt_4 (List.mem_of_getElem? (i := 15) (by rfl))) (by rfl)⟩
theorem my_X1_define : pw_YV yX1_define cX1_define 4 (some .int) 3 := ⟨⟨pw_in (pt_4 (List.mem_of_getElem? (i := 20) (by rfl))) (by rfl), pw_in (pt_1 (List.mem_of_getElem? (i := 14) (by rfl))) (by rfl), by decide +kernel, by decide +kernel, by decide +kernel⟩, pw_in (pt_4 (List.mem_of_getElem? (i := 19) (by rfl))) (by rfl), pw_in (pt_0 (List.mem_of_getElem? (i := 26) (by rfl))) (by rfl)⟩
theorem my_X1_isDefinition : pw_YV yX1_isDefinition cX1_isDefinition 4 (some .boolean) 3 := ⟨⟨pw_in (pt_4 (List.mem_of_getElem? (i := 24) (by rfl))) (by rfl), pw_in (pt_1 (List.mem_of_getElem? (i := 14) (by rfl))) (by rfl), by decide +kernel, by decide +kernel, by decide +kernel⟩, pw_in (pt_4 (List.mem_of_getElem? (i := 23) (by rfl))) (by rfl), pw_in (pt_0 (List.mem_of_getElem? (i := 27) (by rfl))) (by rfl)⟩
theorem my_X1_areParameters : pw_YV yX1_areParameters cX1_areParameters 6 (some .boolean) 1 := ⟨⟨pw_in (pt_4 (List.mem_of_getElem? (i := 28) (by rfl))) (by rfl), pw_in (pt_1 (List.mem_of_getElem? (i := 14) (by rfl))) (by rfl), by decide +kernel, by decide +kernel, by decide +kernel⟩, pw_in (pt_4 (List.mem_of_getElem? (i := 27) (by rfl))) (by rfl), pw_in (pt_0 (List.mem_of_getElem? (i := 28) (by rfl))) (by rfl)⟩
theorem my_X4_isFull : pw_YV yX4_isFull cX4_isFull 1 (some .boolean) 0 := ⟨⟨pw_in (pt_4 (List.mem_of_getElem? (i := 32) (by rfl))) (by rfl), pw_in (pt_1 (List.mem_of_getElem? (i := 12) (by rfl))) (by rfl), by decide +kernel, by decide +kernel, by decide +kernel⟩, pw_in (pt_4 (List.mem_of_getElem? (i := 30) (by rfl))) (by rfl), pw_in (pt_4 (List.mem_of_getElem? (i := 31) (by rfl))) (by rfl)⟩
theorem my_X2_init : pw_YI yX2_init cX2_init 5 4 := ⟨⟨pw_in (pt_4 (List.mem_of_getElem? (i := 37) (by rfl))) (by rfl), pw_in (pt_1 (List.mem_of_getElem? (i := 19) (by rfl))) (by rfl), by decide +kernel, by decide +kernel, by decide +kernel⟩, pw_in (pt_4 (List.mem_of_getElem? (i := 36) (by rfl))) (by rfl), rfl⟩
theorem my_X4_add : pw_YV yX4_add cX4_add 2 none 1 := ⟨⟨pw_in (pt_4 (List.mem_of_getElem? (i := 64) (by rfl))) (by rfl), pw_in (pt_1 (List.mem_of_getElem? (i := 12) (by rfl))) (by rfl), by decide +kernel, by decide +kernel, by decide +kernel⟩, pw_in (pt_4 (List.mem_of_getElem? (i := 62) (by rfl))) (by rfl), pw_in (pt_4 (List.mem_of_getElem? (i := 63) (by rfl))) (by rfl)⟩
theorem my_X1_defineAnew : pw_YV yX1_defineAnew cX1_defineAnew 5 (some .int) 3 := ⟨⟨pw_in (pt_4 (List.mem_of_getElem? (i := 69) (by rfl))) (by rfl), pw_in (pt_1 (List.mem_of_getElem? (i := 14) (by rfl))) (by rfl), by decide +kernel, by decide +kernel, by decide +kernel⟩, pw_in (pt_4 (List.mem_of_getElem? (i := 68) (by rfl))) (by rfl), pw_in (pt_0 (List.mem_of_getElem? (i := 29) (by rfl))) (by rfl)⟩
theorem my_X1_undo : pw_YV yX1_undo cX1_undo 4 (some .int) 0 := ⟨⟨pw_in (pt_4 (List.mem_of_getElem? (i := 73) (by rfl))) (by rfl), pw_in (pt_1 (List.mem_of_getElem? (i := 14) (by rfl))) (by rfl), by decide +kernel, by decide +kernel, by decide +kernel⟩, pw_in (pt_4 (List.mem_of_getElem? (i := 72) (by rfl))) (by rfl), pw_in (pt_0 (List.mem_of_getElem? (i := 30) (by rfl))) (by rfl)⟩
theorem my_X4_at : pw_YV yX4_at cX4_at 2 (some (.object "LispMachine$Definition")) 1 := ⟨⟨pw_in (pt_4 (List.mem_of_getElem? (i := 77) (by rfl))) (by rfl), pw_in (pt_1 (List.mem_of_getElem? (i := 12) (by rfl))) (by rfl), by decide +kernel, by decide +kernel, by decide +kernel⟩, pw_in (pt_4 (List.mem_of_getElem? (i := 75) (by rfl))) (by rfl), pw_in (pt_4 (List.mem_of_getElem? (i := 76) (by rfl))) (by rfl)⟩
theorem my_X8_isCalled : pw_YV yX8_isCalled cX8_isCalled 4 (some .boolean) 2 := ⟨⟨pw_in (pt_4 (List.mem_of_getElem? (i := 81) (by rfl))) (by rfl), pw_in (pt_1 (List.mem_of_getElem? (i := 15) (by rfl))) (by rfl), by decide +kernel, by decide +kernel, by decide +kernel⟩, pw_in (pt_4 (List.mem_of_getElem? (i := 79) (by rfl))) (by rfl), pw_in (pt_4 (List.mem_of_getElem? (i := 80) (by rfl))) (by rfl)⟩
theorem my_X8_gather : pw_YV yX8_gather cX8_gather 3 none 1 := ⟨⟨pw_in (pt_4 (List.mem_of_getElem? (i := 85) (by rfl))) (by rfl), pw_in (pt_1 (List.mem_of_getElem? (i := 15) (by rfl))) (by rfl), by decide +kernel, by decide +kernel, by decide +kernel⟩, pw_in (pt_4 (List.mem_of_getElem? (i := 84) (by rfl))) (by rfl), pw_in (pt_0 (List.mem_of_getElem? (i := 31) (by rfl))) (by rfl)⟩
theorem my_X8_isCall : pw_YV yX8_isCall cX8_isCall 2 (some .boolean) 1 := ⟨⟨pw_in (pt_4 (List.mem_of_getElem? (i := 89) (by rfl))) (by rfl), pw_in (pt_1 (List.mem_of_getElem? (i := 15) (by rfl))) (by rfl), by decide +kernel, by decide +kernel, by decide +kernel⟩, pw_in (pt_4 (List.mem_of_getElem? (i := 88) (by rfl))) (by rfl), pw_in (pt_0 (List.mem_of_getElem? (i := 32) (by rfl))) (by rfl)⟩
theorem my_X4_removeLast : pw_YV yX4_removeLast cX4_removeLast 1 none 0 := ⟨⟨pw_in (pt_4 (List.mem_of_getElem? (i := 93) (by rfl))) (by rfl), pw_in (pt_1 (List.mem_of_getElem? (i := 12) (by rfl))) (by rfl), by decide +kernel, by decide +kernel, by decide +kernel⟩, pw_in (pt_4 (List.mem_of_getElem? (i := 91) (by rfl))) (by rfl), pw_in (pt_4 (List.mem_of_getElem? (i := 92) (by rfl))) (by rfl)⟩
theorem my_X1_show : pw_YV yX1_show cX1_show 4 (some .int) 1 := ⟨⟨pw_in (pt_4 (List.mem_of_getElem? (i := 97) (by rfl))) (by rfl), pw_in (pt_1 (List.mem_of_getElem? (i := 14) (by rfl))) (by rfl), by decide +kernel, by decide +kernel, by decide +kernel⟩, pw_in (pt_4 (List.mem_of_getElem? (i := 96) (by rfl))) (by rfl), pw_in (pt_0 (List.mem_of_getElem? (i := 33) (by rfl))) (by rfl)⟩
theorem my_X8_plain : pw_YV yX8_plain cX8_plain 6 (some .int) 1 := ⟨⟨pw_in (pt_4 (List.mem_of_getElem? (i := 101) (by rfl))) (by rfl), pw_in (pt_1 (List.mem_of_getElem? (i := 15) (by rfl))) (by rfl), by decide +kernel, by decide +kernel, by decide +kernel⟩, pw_in (pt_4 (List.mem_of_getElem? (i := 99) (by rfl))) (by rfl), pw_in (pt_4 (List.mem_of_getElem? (i := 100) (by rfl))) (by rfl)⟩
theorem my_X8_listOfParts : pw_YV yX8_listOfParts cX8_listOfParts 5 (some .int) 2 := ⟨⟨pw_in (pt_4 (List.mem_of_getElem? (i := 105) (by rfl))) (by rfl), pw_in (pt_1 (List.mem_of_getElem? (i := 15) (by rfl))) (by rfl), by decide +kernel, by decide +kernel, by decide +kernel⟩, pw_in (pt_4 (List.mem_of_getElem? (i := 104) (by rfl))) (by rfl), pw_in (pt_0 (List.mem_of_getElem? (i := 34) (by rfl))) (by rfl)⟩
theorem my_X8_isPlainConstant : pw_YV yX8_isPlainConstant cX8_isPlainConstant 2 (some .boolean) 1 := ⟨⟨pw_in (pt_4 (List.mem_of_getElem? (i := 111) (by rfl))) (by rfl), pw_in (pt_1 (List.mem_of_getElem? (i := 15) (by rfl))) (by rfl), by decide +kernel, by decide +kernel, by decide +kernel⟩, pw_in (pt_4 (List.mem_of_getElem? (i := 110) (by rfl))) (by rfl), pw_in (pt_0 (List.mem_of_getElem? (i := 35) (by rfl))) (by rfl)⟩
theorem my_X7_tell : pw_YV yX7_tell cX7_tell 4 none 1 := ⟨⟨pw_in (pt_4 (List.mem_of_getElem? (i := 116) (by rfl))) (by rfl), pw_in (pt_1 (List.mem_of_getElem? (i := 11) (by rfl))) (by rfl), by decide +kernel, by decide +kernel, by decide +kernel⟩, pw_in (pt_4 (List.mem_of_getElem? (i := 114) (by rfl))) (by rfl), pw_in (pt_4 (List.mem_of_getElem? (i := 115) (by rfl))) (by rfl)⟩
theorem my_X7_beginObject : pw_YV yX7_beginObject cX7_beginObject 2 (some .int) 1 := ⟨⟨pw_in (pt_4 (List.mem_of_getElem? (i := 120) (by rfl))) (by rfl), pw_in (pt_1 (List.mem_of_getElem? (i := 11) (by rfl))) (by rfl), by decide +kernel, by decide +kernel, by decide +kernel⟩, pw_in (pt_4 (List.mem_of_getElem? (i := 119) (by rfl))) (by rfl), pw_in (pt_0 (List.mem_of_getElem? (i := 36) (by rfl))) (by rfl)⟩
theorem my_X7_put : pw_YV yX7_put cX7_put 2 none 1 := ⟨⟨pw_in (pt_4 (List.mem_of_getElem? (i := 125) (by rfl))) (by rfl), pw_in (pt_1 (List.mem_of_getElem? (i := 11) (by rfl))) (by rfl), by decide +kernel, by decide +kernel, by decide +kernel⟩, pw_in (pt_4 (List.mem_of_getElem? (i := 124) (by rfl))) (by rfl), pw_in (pt_0 (List.mem_of_getElem? (i := 37) (by rfl))) (by rfl)⟩
theorem my_X7_beginRest : pw_YV yX7_beginRest cX7_beginRest 2 (some .int) 1 := ⟨⟨pw_in (pt_4 (List.mem_of_getElem? (i := 131) (by rfl))) (by rfl), pw_in (pt_1 (List.mem_of_getElem? (i := 11) (by rfl))) (by rfl), by decide +kernel, by decide +kernel, by decide +kernel⟩, pw_in (pt_4 (List.mem_of_getElem? (i := 130) (by rfl))) (by rfl), pw_in (pt_0 (List.mem_of_getElem? (i := 38) (by rfl))) (by rfl)⟩
theorem my_X7_putAtom : pw_YV yX7_putAtom cX7_putAtom 2 none 1 := ⟨⟨pw_in (pt_4 (List.mem_of_getElem? (i := 137) (by rfl))) (by rfl), pw_in (pt_1 (List.mem_of_getElem? (i := 11) (by rfl))) (by rfl), by decide +kernel, by decide +kernel, by decide +kernel⟩, pw_in (pt_4 (List.mem_of_getElem? (i := 136) (by rfl))) (by rfl), pw_in (pt_0 (List.mem_of_getElem? (i := 39) (by rfl))) (by rfl)⟩
theorem my_X7_putNatural : pw_YV yX7_putNatural cX7_putNatural 5 none 1 := ⟨⟨pw_in (pt_4 (List.mem_of_getElem? (i := 143) (by rfl))) (by rfl), pw_in (pt_1 (List.mem_of_getElem? (i := 11) (by rfl))) (by rfl), by decide +kernel, by decide +kernel, by decide +kernel⟩, pw_in (pt_4 (List.mem_of_getElem? (i := 142) (by rfl))) (by rfl), pw_in (pt_0 (List.mem_of_getElem? (i := 40) (by rfl))) (by rfl)⟩
theorem my_X6_spelling : pw_YV yX6_spelling cX6_spelling 2 (some .long) 1 := ⟨⟨pw_in (pt_4 (List.mem_of_getElem? (i := 150) (by rfl))) (by rfl), pw_in (pt_1 (List.mem_of_getElem? (i := 2) (by rfl))) (by rfl), by decide +kernel, by decide +kernel, by decide +kernel⟩, pw_in (pt_4 (List.mem_of_getElem? (i := 148) (by rfl))) (by rfl), pw_in (pt_4 (List.mem_of_getElem? (i := 149) (by rfl))) (by rfl)⟩
theorem my_X7_putSymbol : pw_YV yX7_putSymbol cX7_putSymbol 5 none 1 := ⟨⟨pw_in (pt_4 (List.mem_of_getElem? (i := 154) (by rfl))) (by rfl), pw_in (pt_1 (List.mem_of_getElem? (i := 11) (by rfl))) (by rfl), by decide +kernel, by decide +kernel, by decide +kernel⟩, pw_in (pt_4 (List.mem_of_getElem? (i := 153) (by rfl))) (by rfl), pw_in (pt_0 (List.mem_of_getElem? (i := 41) (by rfl))) (by rfl)⟩
theorem my_X7_goOn : pw_YV yX7_goOn cX7_goOn 2 (some .int) 0 := ⟨⟨pw_in (pt_4 (List.mem_of_getElem? (i := 162) (by rfl))) (by rfl), pw_in (pt_1 (List.mem_of_getElem? (i := 11) (by rfl))) (by rfl), by decide +kernel, by decide +kernel, by decide +kernel⟩, pw_in (pt_4 (List.mem_of_getElem? (i := 161) (by rfl))) (by rfl), pw_in (pt_0 (List.mem_of_getElem? (i := 42) (by rfl))) (by rfl)⟩
theorem my_X9_fault : pw_YV yX9_fault cX9_fault 2 (some .int) 1 := ⟨⟨pw_in (pt_4 (List.mem_of_getElem? (i := 166) (by rfl))) (by rfl), pw_in (pt_1 (List.mem_of_getElem? (i := 1) (by rfl))) (by rfl), by decide +kernel, by decide +kernel, by decide +kernel⟩, pw_in (pt_4 (List.mem_of_getElem? (i := 164) (by rfl))) (by rfl), pw_in (pt_4 (List.mem_of_getElem? (i := 165) (by rfl))) (by rfl)⟩
theorem my_X9_steps : pw_YV yX9_steps cX9_steps 1 (some .int) 0 := ⟨⟨pw_in (pt_4 (List.mem_of_getElem? (i := 170) (by rfl))) (by rfl), pw_in (pt_1 (List.mem_of_getElem? (i := 1) (by rfl))) (by rfl), by decide +kernel, by decide +kernel, by decide +kernel⟩, pw_in (pt_4 (List.mem_of_getElem? (i := 168) (by rfl))) (by rfl), pw_in (pt_4 (List.mem_of_getElem? (i := 169) (by rfl))) (by rfl)⟩
theorem my_X9_functions : pw_YV yX9_functions cX9_functions 1 (some .int) 0 := ⟨⟨pw_in (pt_4 (List.mem_of_getElem? (i := 174) (by rfl))) (by rfl), pw_in (pt_1 (List.mem_of_getElem? (i := 1) (by rfl))) (by rfl), by decide +kernel, by decide +kernel, by decide +kernel⟩, pw_in (pt_4 (List.mem_of_getElem? (i := 172) (by rfl))) (by rfl), pw_in (pt_4 (List.mem_of_getElem? (i := 173) (by rfl))) (by rfl)⟩
theorem my_X9_size : pw_YV yX9_size cX9_size 1 (some .int) 0 := ⟨⟨pw_in (pt_4 (List.mem_of_getElem? (i := 178) (by rfl))) (by rfl), pw_in (pt_1 (List.mem_of_getElem? (i := 1) (by rfl))) (by rfl), by decide +kernel, by decide +kernel, by decide +kernel⟩, pw_in (pt_4 (List.mem_of_getElem? (i := 176) (by rfl))) (by rfl), pw_in (pt_4 (List.mem_of_getElem? (i := 177) (by rfl))) (by rfl)⟩
theorem my_X9_letter : pw_YV yX9_letter cX9_letter 2 (some .int) 1 := ⟨⟨pw_in (pt_4 (List.mem_of_getElem? (i := 182) (by rfl))) (by rfl), pw_in (pt_1 (List.mem_of_getElem? (i := 1) (by rfl))) (by rfl), by decide +kernel, by decide +kernel, by decide +kernel⟩, pw_in (pt_4 (List.mem_of_getElem? (i := 180) (by rfl))) (by rfl), pw_in (pt_4 (List.mem_of_getElem? (i := 181) (by rfl))) (by rfl)⟩
theorem my_X7_characterAt : pw_YV yX7_characterAt cX7_characterAt 2 (some .int) 1 := ⟨⟨pw_in (pt_4 (List.mem_of_getElem? (i := 186) (by rfl))) (by rfl), pw_in (pt_1 (List.mem_of_getElem? (i := 11) (by rfl))) (by rfl), by decide +kernel, by decide +kernel, by decide +kernel⟩, pw_in (pt_4 (List.mem_of_getElem? (i := 184) (by rfl))) (by rfl), pw_in (pt_4 (List.mem_of_getElem? (i := 185) (by rfl))) (by rfl)⟩
theorem my_X10_init : pw_YI yX10_init cX10_init 2 0 := ⟨⟨pw_in (pt_4 (List.mem_of_getElem? (i := 191) (by rfl))) (by rfl), pw_in (pt_1 (List.mem_of_getElem? (i := 16) (by rfl))) (by rfl), by decide +kernel, by decide +kernel, by decide +kernel⟩, pw_in (pt_4 (List.mem_of_getElem? (i := 190) (by rfl))) (by rfl), rfl⟩
theorem my_X10_said : pw_YV yX10_said cX10_said 10 none 8 := ⟨⟨pw_in (pt_4 (List.mem_of_getElem? (i := 198) (by rfl))) (by rfl), pw_in (pt_1 (List.mem_of_getElem? (i := 16) (by rfl))) (by rfl), by decide +kernel, by decide +kernel, by decide +kernel⟩, pw_in (pt_4 (List.mem_of_getElem? (i := 197) (by rfl))) (by rfl), pw_in (pt_0 (List.mem_of_getElem? (i := 43) (by rfl))) (by rfl)⟩
theorem my_X10_spell : pw_YV yX10_spell cX10_spell 2 none 1 := ⟨⟨pw_in (pt_4 (List.mem_of_getElem? (i := 202) (by rfl))) (by rfl), pw_in (pt_1 (List.mem_of_getElem? (i := 16) (by rfl))) (by rfl), by decide +kernel, by decide +kernel, by decide +kernel⟩, pw_in (pt_4 (List.mem_of_getElem? (i := 201) (by rfl))) (by rfl), pw_in (pt_0 (List.mem_of_getElem? (i := 44) (by rfl))) (by rfl)⟩
theorem my_X10_symbol : pw_YV yX10_symbol cX10_symbol 3 (some .int) 0 := ⟨⟨pw_in (pt_4 (List.mem_of_getElem? (i := 206) (by rfl))) (by rfl), pw_in (pt_1 (List.mem_of_getElem? (i := 16) (by rfl))) (by rfl), by decide +kernel, by decide +kernel, by decide +kernel⟩, pw_in (pt_4 (List.mem_of_getElem? (i := 205) (by rfl))) (by rfl), pw_in (pt_0 (List.mem_of_getElem? (i := 45) (by rfl))) (by rfl)⟩
theorem my_X10_spelled : pw_YV yX10_spelled cX10_spelled 6 (some .int) 3 := ⟨⟨pw_in (pt_4 (List.mem_of_getElem? (i := 210) (by rfl))) (by rfl), pw_in (pt_1 (List.mem_of_getElem? (i := 16) (by rfl))) (by rfl), by decide +kernel, by decide +kernel, by decide +kernel⟩, pw_in (pt_4 (List.mem_of_getElem? (i := 209) (by rfl))) (by rfl), pw_in (pt_0 (List.mem_of_getElem? (i := 46) (by rfl))) (by rfl)⟩
theorem my_X10_isWord : pw_YV yX10_isWord cX10_isWord 4 (some .boolean) 1 := ⟨⟨pw_in (pt_4 (List.mem_of_getElem? (i := 214) (by rfl))) (by rfl), pw_in (pt_1 (List.mem_of_getElem? (i := 16) (by rfl))) (by rfl), by decide +kernel, by decide +kernel, by decide +kernel⟩, pw_in (pt_4 (List.mem_of_getElem? (i := 213) (by rfl))) (by rfl), pw_in (pt_0 (List.mem_of_getElem? (i := 47) (by rfl))) (by rfl)⟩
theorem my_X10_added : pw_YV yX10_added cX10_added 4 (some .int) 3 := ⟨⟨pw_in (pt_4 (List.mem_of_getElem? (i := 218) (by rfl))) (by rfl), pw_in (pt_1 (List.mem_of_getElem? (i := 16) (by rfl))) (by rfl), by decide +kernel, by decide +kernel, by decide +kernel⟩, pw_in (pt_4 (List.mem_of_getElem? (i := 217) (by rfl))) (by rfl), pw_in (pt_0 (List.mem_of_getElem? (i := 48) (by rfl))) (by rfl)⟩
theorem my_X10_feed : pw_YV yX10_feed cX10_feed 7 none 5 := ⟨⟨pw_in (pt_5 (List.mem_of_getElem? (i := 194) (by rfl))) (by rfl), pw_in (pt_1 (List.mem_of_getElem? (i := 16) (by rfl))) (by rfl), by decide +kernel, by decide +kernel, by decide +kernel⟩, pw_in (pt_5 (List.mem_of_getElem? (i := 192) (by rfl))) (by rfl), pw_in (pt_5 (List.mem_of_getElem? (i := 193) (by rfl))) (by rfl)⟩
theorem my_X10_end : pw_YV yX10_end cX10_end 3 (some .int) 1 := ⟨⟨pw_in (pt_5 (List.mem_of_getElem? (i := 198) (by rfl))) (by rfl), pw_in (pt_1 (List.mem_of_getElem? (i := 16) (by rfl))) (by rfl), by decide +kernel, by decide +kernel, by decide +kernel⟩, pw_in (pt_5 (List.mem_of_getElem? (i := 196) (by rfl))) (by rfl), pw_in (pt_5 (List.mem_of_getElem? (i := 197) (by rfl))) (by rfl)⟩
theorem my_X10_fuel : pw_YV yX10_fuel cX10_fuel 3 (some .int) 1 := ⟨⟨pw_in (pt_5 (List.mem_of_getElem? (i := 202) (by rfl))) (by rfl), pw_in (pt_1 (List.mem_of_getElem? (i := 16) (by rfl))) (by rfl), by decide +kernel, by decide +kernel, by decide +kernel⟩, pw_in (pt_5 (List.mem_of_getElem? (i := 200) (by rfl))) (by rfl), pw_in (pt_5 (List.mem_of_getElem? (i := 201) (by rfl))) (by rfl)⟩
theorem my_X10_run : pw_YV yX10_run cX10_run 3 (some .int) 0 := ⟨⟨pw_in (pt_5 (List.mem_of_getElem? (i := 206) (by rfl))) (by rfl), pw_in (pt_1 (List.mem_of_getElem? (i := 16) (by rfl))) (by rfl), by decide +kernel, by decide +kernel, by decide +kernel⟩, pw_in (pt_5 (List.mem_of_getElem? (i := 204) (by rfl))) (by rfl), pw_in (pt_5 (List.mem_of_getElem? (i := 205) (by rfl))) (by rfl)⟩
theorem my_X10_reads : pw_YV yX10_reads cX10_reads 2 (some .boolean) 0 := ⟨⟨pw_in (pt_5 (List.mem_of_getElem? (i := 210) (by rfl))) (by rfl), pw_in (pt_1 (List.mem_of_getElem? (i := 16) (by rfl))) (by rfl), by decide +kernel, by decide +kernel, by decide +kernel⟩, pw_in (pt_5 (List.mem_of_getElem? (i := 209) (by rfl))) (by rfl), pw_in (pt_0 (List.mem_of_getElem? (i := 49) (by rfl))) (by rfl)⟩
theorem my_X10_skip : pw_YV yX10_skip cX10_skip 2 none 0 := ⟨⟨pw_in (pt_5 (List.mem_of_getElem? (i := 214) (by rfl))) (by rfl), pw_in (pt_1 (List.mem_of_getElem? (i := 16) (by rfl))) (by rfl), by decide +kernel, by decide +kernel, by decide +kernel⟩, pw_in (pt_5 (List.mem_of_getElem? (i := 213) (by rfl))) (by rfl), pw_in (pt_0 (List.mem_of_getElem? (i := 50) (by rfl))) (by rfl)⟩
theorem my_X10_readWord : pw_YV yX10_readWord cX10_readWord 6 none 1 := ⟨⟨pw_in (pt_5 (List.mem_of_getElem? (i := 218) (by rfl))) (by rfl), pw_in (pt_1 (List.mem_of_getElem? (i := 16) (by rfl))) (by rfl), by decide +kernel, by decide +kernel, by decide +kernel⟩, pw_in (pt_5 (List.mem_of_getElem? (i := 217) (by rfl))) (by rfl), pw_in (pt_0 (List.mem_of_getElem? (i := 51) (by rfl))) (by rfl)⟩
theorem my_X10_mayBegin : pw_YV yX10_mayBegin cX10_mayBegin 1 (some .boolean) 0 := ⟨⟨pw_in (pt_5 (List.mem_of_getElem? (i := 222) (by rfl))) (by rfl), pw_in (pt_1 (List.mem_of_getElem? (i := 16) (by rfl))) (by rfl), by decide +kernel, by decide +kernel, by decide +kernel⟩, pw_in (pt_5 (List.mem_of_getElem? (i := 221) (by rfl))) (by rfl), pw_in (pt_0 (List.mem_of_getElem? (i := 52) (by rfl))) (by rfl)⟩
theorem my_X10_bad : pw_YV yX10_bad cX10_bad 3 none 2 := ⟨⟨pw_in (pt_5 (List.mem_of_getElem? (i := 226) (by rfl))) (by rfl), pw_in (pt_1 (List.mem_of_getElem? (i := 16) (by rfl))) (by rfl), by decide +kernel, by decide +kernel, by decide +kernel⟩, pw_in (pt_5 (List.mem_of_getElem? (i := 225) (by rfl))) (by rfl), pw_in (pt_0 (List.mem_of_getElem? (i := 53) (by rfl))) (by rfl)⟩
theorem my_X10_begin : pw_YV yX10_begin cX10_begin 2 none 1 := ⟨⟨pw_in (pt_5 (List.mem_of_getElem? (i := 230) (by rfl))) (by rfl), pw_in (pt_1 (List.mem_of_getElem? (i := 16) (by rfl))) (by rfl), by decide +kernel, by decide +kernel, by decide +kernel⟩, pw_in (pt_5 (List.mem_of_getElem? (i := 229) (by rfl))) (by rfl), pw_in (pt_0 (List.mem_of_getElem? (i := 54) (by rfl))) (by rfl)⟩
theorem my_X10_isInList : pw_YV yX10_isInList cX10_isInList 1 (some .boolean) 0 := ⟨⟨pw_in (pt_5 (List.mem_of_getElem? (i := 234) (by rfl))) (by rfl), pw_in (pt_1 (List.mem_of_getElem? (i := 16) (by rfl))) (by rfl), by decide +kernel, by decide +kernel, by decide +kernel⟩, pw_in (pt_5 (List.mem_of_getElem? (i := 233) (by rfl))) (by rfl), pw_in (pt_0 (List.mem_of_getElem? (i := 55) (by rfl))) (by rfl)⟩
theorem my_X10_close : pw_YV yX10_close cX10_close 3 none 0 := ⟨⟨pw_in (pt_5 (List.mem_of_getElem? (i := 238) (by rfl))) (by rfl), pw_in (pt_1 (List.mem_of_getElem? (i := 16) (by rfl))) (by rfl), by decide +kernel, by decide +kernel, by decide +kernel⟩, pw_in (pt_5 (List.mem_of_getElem? (i := 237) (by rfl))) (by rfl), pw_in (pt_0 (List.mem_of_getElem? (i := 56) (by rfl))) (by rfl)⟩
theorem my_X10_pair : pw_YV yX10_pair cX10_pair 5 (some .int) 2 := ⟨⟨pw_in (pt_6 (List.mem_of_getElem? (i := 2) (by rfl))) (by rfl), pw_in (pt_1 (List.mem_of_getElem? (i := 16) (by rfl))) (by rfl), by decide +kernel, by decide +kernel, by decide +kernel⟩, pw_in (pt_6 (List.mem_of_getElem? (i := 1) (by rfl))) (by rfl), pw_in (pt_0 (List.mem_of_getElem? (i := 57) (by rfl))) (by rfl)⟩
theorem my_X10_slot : pw_YS yX10_slot cX10_slot 2 (some .int) 2 := ⟨⟨pw_in (pt_6 (List.mem_of_getElem? (i := 5) (by rfl))) (by rfl), pw_in (pt_1 (List.mem_of_getElem? (i := 16) (by rfl))) (by rfl), by decide +kernel, by decide +kernel, by decide +kernel⟩, pw_in (pt_6 (List.mem_of_getElem? (i := 4) (by rfl))) (by rfl)⟩
theorem my_X10_deliver : pw_YV yX10_deliver cX10_deliver 3 none 1 := ⟨⟨pw_in (pt_6 (List.mem_of_getElem? (i := 10) (by rfl))) (by rfl), pw_in (pt_1 (List.mem_of_getElem? (i := 16) (by rfl))) (by rfl), by decide +kernel, by decide +kernel, by decide +kernel⟩, pw_in (pt_6 (List.mem_of_getElem? (i := 9) (by rfl))) (by rfl), pw_in (pt_0 (List.mem_of_getElem? (i := 58) (by rfl))) (by rfl)⟩
theorem my_X10_list2 : pw_YV yX10_list2 cX10_list2 3 (some .int) 2 := ⟨⟨pw_in (pt_6 (List.mem_of_getElem? (i := 14) (by rfl))) (by rfl), pw_in (pt_1 (List.mem_of_getElem? (i := 16) (by rfl))) (by rfl), by decide +kernel, by decide +kernel, by decide +kernel⟩, pw_in (pt_6 (List.mem_of_getElem? (i := 13) (by rfl))) (by rfl), pw_in (pt_0 (List.mem_of_getElem? (i := 59) (by rfl))) (by rfl)⟩
theorem my_X10_list1 : pw_YV yX10_list1 cX10_list1 2 (some .int) 1 := ⟨⟨pw_in (pt_6 (List.mem_of_getElem? (i := 18) (by rfl))) (by rfl), pw_in (pt_1 (List.mem_of_getElem? (i := 16) (by rfl))) (by rfl), by decide +kernel, by decide +kernel, by decide +kernel⟩, pw_in (pt_6 (List.mem_of_getElem? (i := 17) (by rfl))) (by rfl), pw_in (pt_0 (List.mem_of_getElem? (i := 60) (by rfl))) (by rfl)⟩
theorem my_X10_isAtom : pw_YS yX10_isAtom cX10_isAtom 1 (some .boolean) 1 := ⟨⟨pw_in (pt_6 (List.mem_of_getElem? (i := 21) (by rfl))) (by rfl), pw_in (pt_1 (List.mem_of_getElem? (i := 16) (by rfl))) (by rfl), by decide +kernel, by decide +kernel, by decide +kernel⟩, pw_in (pt_6 (List.mem_of_getElem? (i := 20) (by rfl))) (by rfl)⟩
theorem my_X10_isDigit : pw_YS yX10_isDigit cX10_isDigit 1 (some .boolean) 1 := ⟨⟨pw_in (pt_6 (List.mem_of_getElem? (i := 24) (by rfl))) (by rfl), pw_in (pt_1 (List.mem_of_getElem? (i := 16) (by rfl))) (by rfl), by decide +kernel, by decide +kernel, by decide +kernel⟩, pw_in (pt_6 (List.mem_of_getElem? (i := 23) (by rfl))) (by rfl)⟩
theorem my_X10_atom : pw_YV yX10_atom cX10_atom 7 (some .int) 2 := ⟨⟨pw_in (pt_6 (List.mem_of_getElem? (i := 28) (by rfl))) (by rfl), pw_in (pt_1 (List.mem_of_getElem? (i := 16) (by rfl))) (by rfl), by decide +kernel, by decide +kernel, by decide +kernel⟩, pw_in (pt_6 (List.mem_of_getElem? (i := 27) (by rfl))) (by rfl), pw_in (pt_0 (List.mem_of_getElem? (i := 61) (by rfl))) (by rfl)⟩
theorem my_X10_natural : pw_YV yX10_natural cX10_natural 5 (some .int) 1 := ⟨⟨pw_in (pt_6 (List.mem_of_getElem? (i := 35) (by rfl))) (by rfl), pw_in (pt_1 (List.mem_of_getElem? (i := 16) (by rfl))) (by rfl), by decide +kernel, by decide +kernel, by decide +kernel⟩, pw_in (pt_6 (List.mem_of_getElem? (i := 34) (by rfl))) (by rfl), pw_in (pt_0 (List.mem_of_getElem? (i := 62) (by rfl))) (by rfl)⟩
theorem my_X10_command : pw_YV yX10_command cX10_command 2 (some .int) 1 := ⟨⟨pw_in (pt_6 (List.mem_of_getElem? (i := 39) (by rfl))) (by rfl), pw_in (pt_1 (List.mem_of_getElem? (i := 16) (by rfl))) (by rfl), by decide +kernel, by decide +kernel, by decide +kernel⟩, pw_in (pt_6 (List.mem_of_getElem? (i := 38) (by rfl))) (by rfl), pw_in (pt_0 (List.mem_of_getElem? (i := 63) (by rfl))) (by rfl)⟩
theorem my_X10_isPair : pw_YV yX10_isPair cX10_isPair 2 (some .boolean) 1 := ⟨⟨pw_in (pt_6 (List.mem_of_getElem? (i := 43) (by rfl))) (by rfl), pw_in (pt_1 (List.mem_of_getElem? (i := 16) (by rfl))) (by rfl), by decide +kernel, by decide +kernel, by decide +kernel⟩, pw_in (pt_6 (List.mem_of_getElem? (i := 42) (by rfl))) (by rfl), pw_in (pt_0 (List.mem_of_getElem? (i := 64) (by rfl))) (by rfl)⟩
theorem my_X10_eval : pw_YV yX10_eval cX10_eval 3 (some .int) 1 := ⟨⟨pw_in (pt_6 (List.mem_of_getElem? (i := 47) (by rfl))) (by rfl), pw_in (pt_1 (List.mem_of_getElem? (i := 16) (by rfl))) (by rfl), by decide +kernel, by decide +kernel, by decide +kernel⟩, pw_in (pt_6 (List.mem_of_getElem? (i := 46) (by rfl))) (by rfl), pw_in (pt_0 (List.mem_of_getElem? (i := 65) (by rfl))) (by rfl)⟩
theorem my_X10_lengthOf : pw_YV yX10_lengthOf cX10_lengthOf 4 (some .int) 1 := ⟨⟨pw_in (pt_6 (List.mem_of_getElem? (i := 51) (by rfl))) (by rfl), pw_in (pt_1 (List.mem_of_getElem? (i := 16) (by rfl))) (by rfl), by decide +kernel, by decide +kernel, by decide +kernel⟩, pw_in (pt_6 (List.mem_of_getElem? (i := 50) (by rfl))) (by rfl), pw_in (pt_0 (List.mem_of_getElem? (i := 66) (by rfl))) (by rfl)⟩
theorem my_X10_nth : pw_YV yX10_nth cX10_nth 5 (some .int) 2 := ⟨⟨pw_in (pt_6 (List.mem_of_getElem? (i := 55) (by rfl))) (by rfl), pw_in (pt_1 (List.mem_of_getElem? (i := 16) (by rfl))) (by rfl), by decide +kernel, by decide +kernel, by decide +kernel⟩, pw_in (pt_6 (List.mem_of_getElem? (i := 54) (by rfl))) (by rfl), pw_in (pt_0 (List.mem_of_getElem? (i := 67) (by rfl))) (by rfl)⟩
theorem my_X10_termOf : pw_YV yX10_termOf cX10_termOf 7 (some .int) 1 := ⟨⟨pw_in (pt_6 (List.mem_of_getElem? (i := 59) (by rfl))) (by rfl), pw_in (pt_1 (List.mem_of_getElem? (i := 16) (by rfl))) (by rfl), by decide +kernel, by decide +kernel, by decide +kernel⟩, pw_in (pt_6 (List.mem_of_getElem? (i := 58) (by rfl))) (by rfl), pw_in (pt_0 (List.mem_of_getElem? (i := 68) (by rfl))) (by rfl)⟩
theorem my_X10_beginTerm : pw_YV yX10_beginTerm cX10_beginTerm 3 (some .boolean) 1 := ⟨⟨pw_in (pt_6 (List.mem_of_getElem? (i := 63) (by rfl))) (by rfl), pw_in (pt_1 (List.mem_of_getElem? (i := 16) (by rfl))) (by rfl), by decide +kernel, by decide +kernel, by decide +kernel⟩, pw_in (pt_6 (List.mem_of_getElem? (i := 62) (by rfl))) (by rfl), pw_in (pt_0 (List.mem_of_getElem? (i := 69) (by rfl))) (by rfl)⟩
theorem my_X10_build : pw_YV yX10_build cX10_build 2 none 1 := ⟨⟨pw_in (pt_6 (List.mem_of_getElem? (i := 67) (by rfl))) (by rfl), pw_in (pt_1 (List.mem_of_getElem? (i := 16) (by rfl))) (by rfl), by decide +kernel, by decide +kernel, by decide +kernel⟩, pw_in (pt_6 (List.mem_of_getElem? (i := 66) (by rfl))) (by rfl), pw_in (pt_0 (List.mem_of_getElem? (i := 70) (by rfl))) (by rfl)⟩
theorem my_X10_isQuoted : pw_YV yX10_isQuoted cX10_isQuoted 2 (some .boolean) 1 := ⟨⟨pw_in (pt_6 (List.mem_of_getElem? (i := 71) (by rfl))) (by rfl), pw_in (pt_1 (List.mem_of_getElem? (i := 16) (by rfl))) (by rfl), by decide +kernel, by decide +kernel, by decide +kernel⟩, pw_in (pt_6 (List.mem_of_getElem? (i := 70) (by rfl))) (by rfl), pw_in (pt_0 (List.mem_of_getElem? (i := 71) (by rfl))) (by rfl)⟩
theorem my_X10_constantOf : pw_YV yX10_constantOf cX10_constantOf 2 (some .int) 1 := ⟨⟨pw_in (pt_6 (List.mem_of_getElem? (i := 75) (by rfl))) (by rfl), pw_in (pt_1 (List.mem_of_getElem? (i := 16) (by rfl))) (by rfl), by decide +kernel, by decide +kernel, by decide +kernel⟩, pw_in (pt_6 (List.mem_of_getElem? (i := 74) (by rfl))) (by rfl), pw_in (pt_0 (List.mem_of_getElem? (i := 72) (by rfl))) (by rfl)⟩
theorem my_X10_isNatural : pw_YV yX10_isNatural cX10_isNatural 2 (some .boolean) 1 := ⟨⟨pw_in (pt_6 (List.mem_of_getElem? (i := 79) (by rfl))) (by rfl), pw_in (pt_1 (List.mem_of_getElem? (i := 16) (by rfl))) (by rfl), by decide +kernel, by decide +kernel, by decide +kernel⟩, pw_in (pt_6 (List.mem_of_getElem? (i := 78) (by rfl))) (by rfl), pw_in (pt_0 (List.mem_of_getElem? (i := 73) (by rfl))) (by rfl)⟩
theorem my_X10_isSymbol : pw_YV yX10_isSymbol cX10_isSymbol 2 (some .boolean) 1 := ⟨⟨pw_in (pt_6 (List.mem_of_getElem? (i := 83) (by rfl))) (by rfl), pw_in (pt_1 (List.mem_of_getElem? (i := 16) (by rfl))) (by rfl), by decide +kernel, by decide +kernel, by decide +kernel⟩, pw_in (pt_6 (List.mem_of_getElem? (i := 82) (by rfl))) (by rfl), pw_in (pt_0 (List.mem_of_getElem? (i := 74) (by rfl))) (by rfl)⟩
theorem my_X10_functionOf : pw_YV yX10_functionOf cX10_functionOf 3 (some .int) 1 := ⟨⟨pw_in (pt_6 (List.mem_of_getElem? (i := 87) (by rfl))) (by rfl), pw_in (pt_1 (List.mem_of_getElem? (i := 16) (by rfl))) (by rfl), by decide +kernel, by decide +kernel, by decide +kernel⟩, pw_in (pt_6 (List.mem_of_getElem? (i := 86) (by rfl))) (by rfl), pw_in (pt_0 (List.mem_of_getElem? (i := 75) (by rfl))) (by rfl)⟩
theorem my_X10_manyOf : pw_YV yX10_manyOf cX10_manyOf 2 (some .int) 1 := ⟨⟨pw_in (pt_6 (List.mem_of_getElem? (i := 91) (by rfl))) (by rfl), pw_in (pt_1 (List.mem_of_getElem? (i := 16) (by rfl))) (by rfl), by decide +kernel, by decide +kernel, by decide +kernel⟩, pw_in (pt_6 (List.mem_of_getElem? (i := 90) (by rfl))) (by rfl), pw_in (pt_0 (List.mem_of_getElem? (i := 76) (by rfl))) (by rfl)⟩
theorem my_X10_openCall : pw_YV yX10_openCall cX10_openCall 2 none 1 := ⟨⟨pw_in (pt_6 (List.mem_of_getElem? (i := 95) (by rfl))) (by rfl), pw_in (pt_1 (List.mem_of_getElem? (i := 16) (by rfl))) (by rfl), by decide +kernel, by decide +kernel, by decide +kernel⟩, pw_in (pt_6 (List.mem_of_getElem? (i := 94) (by rfl))) (by rfl), pw_in (pt_0 (List.mem_of_getElem? (i := 77) (by rfl))) (by rfl)⟩
theorem my_X10_callFrom : pw_YV yX10_callFrom cX10_callFrom 6 (some .int) 2 := ⟨⟨pw_in (pt_6 (List.mem_of_getElem? (i := 99) (by rfl))) (by rfl), pw_in (pt_1 (List.mem_of_getElem? (i := 16) (by rfl))) (by rfl), by decide +kernel, by decide +kernel, by decide +kernel⟩, pw_in (pt_6 (List.mem_of_getElem? (i := 98) (by rfl))) (by rfl), pw_in (pt_0 (List.mem_of_getElem? (i := 78) (by rfl))) (by rfl)⟩
theorem my_X10_sizeOf : pw_YV yX10_sizeOf cX10_sizeOf 2 (some .int) 1 := ⟨⟨pw_in (pt_6 (List.mem_of_getElem? (i := 103) (by rfl))) (by rfl), pw_in (pt_1 (List.mem_of_getElem? (i := 16) (by rfl))) (by rfl), by decide +kernel, by decide +kernel, by decide +kernel⟩, pw_in (pt_6 (List.mem_of_getElem? (i := 102) (by rfl))) (by rfl), pw_in (pt_0 (List.mem_of_getElem? (i := 79) (by rfl))) (by rfl)⟩
theorem my_X10_isCall : pw_YV yX10_isCall cX10_isCall 2 (some .boolean) 1 := ⟨⟨pw_in (pt_6 (List.mem_of_getElem? (i := 107) (by rfl))) (by rfl), pw_in (pt_1 (List.mem_of_getElem? (i := 16) (by rfl))) (by rfl), by decide +kernel, by decide +kernel, by decide +kernel⟩, pw_in (pt_6 (List.mem_of_getElem? (i := 106) (by rfl))) (by rfl), pw_in (pt_0 (List.mem_of_getElem? (i := 80) (by rfl))) (by rfl)⟩
theorem my_X10_hasOnly : pw_YV yX10_hasOnly cX10_hasOnly 4 (some .boolean) 2 := ⟨⟨pw_in (pt_6 (List.mem_of_getElem? (i := 111) (by rfl))) (by rfl), pw_in (pt_1 (List.mem_of_getElem? (i := 16) (by rfl))) (by rfl), by decide +kernel, by decide +kernel, by decide +kernel⟩, pw_in (pt_6 (List.mem_of_getElem? (i := 110) (by rfl))) (by rfl), pw_in (pt_0 (List.mem_of_getElem? (i := 81) (by rfl))) (by rfl)⟩
theorem my_X10_variablesOf : pw_YV yX10_variablesOf cX10_variablesOf 5 none 1 := ⟨⟨pw_in (pt_6 (List.mem_of_getElem? (i := 115) (by rfl))) (by rfl), pw_in (pt_1 (List.mem_of_getElem? (i := 16) (by rfl))) (by rfl), by decide +kernel, by decide +kernel, by decide +kernel⟩, pw_in (pt_6 (List.mem_of_getElem? (i := 114) (by rfl))) (by rfl), pw_in (pt_0 (List.mem_of_getElem? (i := 82) (by rfl))) (by rfl)⟩
theorem my_X10_walkTo : pw_YV yX10_walkTo cX10_walkTo 2 none 1 := ⟨⟨pw_in (pt_6 (List.mem_of_getElem? (i := 119) (by rfl))) (by rfl), pw_in (pt_1 (List.mem_of_getElem? (i := 16) (by rfl))) (by rfl), by decide +kernel, by decide +kernel, by decide +kernel⟩, pw_in (pt_6 (List.mem_of_getElem? (i := 118) (by rfl))) (by rfl), pw_in (pt_0 (List.mem_of_getElem? (i := 83) (by rfl))) (by rfl)⟩
theorem my_X10_walkOn : pw_YV yX10_walkOn cX10_walkOn 4 (some .int) 0 := ⟨⟨pw_in (pt_6 (List.mem_of_getElem? (i := 123) (by rfl))) (by rfl), pw_in (pt_1 (List.mem_of_getElem? (i := 16) (by rfl))) (by rfl), by decide +kernel, by decide +kernel, by decide +kernel⟩, pw_in (pt_6 (List.mem_of_getElem? (i := 122) (by rfl))) (by rfl), pw_in (pt_0 (List.mem_of_getElem? (i := 84) (by rfl))) (by rfl)⟩
theorem my_X10_isVariable : pw_YV yX10_isVariable cX10_isVariable 2 (some .boolean) 1 := ⟨⟨pw_in (pt_6 (List.mem_of_getElem? (i := 127) (by rfl))) (by rfl), pw_in (pt_1 (List.mem_of_getElem? (i := 16) (by rfl))) (by rfl), by decide +kernel, by decide +kernel, by decide +kernel⟩, pw_in (pt_6 (List.mem_of_getElem? (i := 126) (by rfl))) (by rfl), pw_in (pt_0 (List.mem_of_getElem? (i := 85) (by rfl))) (by rfl)⟩
theorem my_X10_isIn : pw_YV yX10_isIn cX10_isIn 4 (some .boolean) 2 := ⟨⟨pw_in (pt_6 (List.mem_of_getElem? (i := 131) (by rfl))) (by rfl), pw_in (pt_1 (List.mem_of_getElem? (i := 16) (by rfl))) (by rfl), by decide +kernel, by decide +kernel, by decide +kernel⟩, pw_in (pt_6 (List.mem_of_getElem? (i := 130) (by rfl))) (by rfl), pw_in (pt_0 (List.mem_of_getElem? (i := 86) (by rfl))) (by rfl)⟩
theorem my_X10_toldValue : pw_YV yX10_toldValue cX10_toldValue 3 (some .int) 1 := ⟨⟨pw_in (pt_6 (List.mem_of_getElem? (i := 135) (by rfl))) (by rfl), pw_in (pt_1 (List.mem_of_getElem? (i := 16) (by rfl))) (by rfl), by decide +kernel, by decide +kernel, by decide +kernel⟩, pw_in (pt_6 (List.mem_of_getElem? (i := 134) (by rfl))) (by rfl), pw_in (pt_0 (List.mem_of_getElem? (i := 87) (by rfl))) (by rfl)⟩
theorem my_X10_evaluated : pw_YV yX10_evaluated cX10_evaluated 3 (some .int) 2 := ⟨⟨pw_in (pt_6 (List.mem_of_getElem? (i := 139) (by rfl))) (by rfl), pw_in (pt_1 (List.mem_of_getElem? (i := 16) (by rfl))) (by rfl), by decide +kernel, by decide +kernel, by decide +kernel⟩, pw_in (pt_6 (List.mem_of_getElem? (i := 138) (by rfl))) (by rfl), pw_in (pt_0 (List.mem_of_getElem? (i := 88) (by rfl))) (by rfl)⟩
theorem my_X10_beginEval : pw_YV yX10_beginEval cX10_beginEval 6 none 4 := ⟨⟨pw_in (pt_6 (List.mem_of_getElem? (i := 143) (by rfl))) (by rfl), pw_in (pt_1 (List.mem_of_getElem? (i := 16) (by rfl))) (by rfl), by decide +kernel, by decide +kernel, by decide +kernel⟩, pw_in (pt_6 (List.mem_of_getElem? (i := 142) (by rfl))) (by rfl), pw_in (pt_0 (List.mem_of_getElem? (i := 89) (by rfl))) (by rfl)⟩
theorem my_X10_isConstant : pw_YV yX10_isConstant cX10_isConstant 2 (some .boolean) 1 := ⟨⟨pw_in (pt_6 (List.mem_of_getElem? (i := 147) (by rfl))) (by rfl), pw_in (pt_1 (List.mem_of_getElem? (i := 16) (by rfl))) (by rfl), by decide +kernel, by decide +kernel, by decide +kernel⟩, pw_in (pt_6 (List.mem_of_getElem? (i := 146) (by rfl))) (by rfl), pw_in (pt_0 (List.mem_of_getElem? (i := 90) (by rfl))) (by rfl)⟩
theorem my_X10_valueOf : pw_YV yX10_valueOf cX10_valueOf 2 (some .int) 1 := ⟨⟨pw_in (pt_6 (List.mem_of_getElem? (i := 151) (by rfl))) (by rfl), pw_in (pt_1 (List.mem_of_getElem? (i := 16) (by rfl))) (by rfl), by decide +kernel, by decide +kernel, by decide +kernel⟩, pw_in (pt_6 (List.mem_of_getElem? (i := 150) (by rfl))) (by rfl), pw_in (pt_0 (List.mem_of_getElem? (i := 91) (by rfl))) (by rfl)⟩
theorem my_X10_takeValue : pw_YV yX10_takeValue cX10_takeValue 3 none 1 := ⟨⟨pw_in (pt_6 (List.mem_of_getElem? (i := 155) (by rfl))) (by rfl), pw_in (pt_1 (List.mem_of_getElem? (i := 16) (by rfl))) (by rfl), by decide +kernel, by decide +kernel, by decide +kernel⟩, pw_in (pt_6 (List.mem_of_getElem? (i := 154) (by rfl))) (by rfl), pw_in (pt_0 (List.mem_of_getElem? (i := 92) (by rfl))) (by rfl)⟩
theorem my_X10_term : pw_YV yX10_term cX10_term 3 (some .int) 2 := ⟨⟨pw_in (pt_6 (List.mem_of_getElem? (i := 159) (by rfl))) (by rfl), pw_in (pt_1 (List.mem_of_getElem? (i := 16) (by rfl))) (by rfl), by decide +kernel, by decide +kernel, by decide +kernel⟩, pw_in (pt_6 (List.mem_of_getElem? (i := 158) (by rfl))) (by rfl), pw_in (pt_0 (List.mem_of_getElem? (i := 93) (by rfl))) (by rfl)⟩
theorem my_X10_goOn : pw_YV yX10_goOn cX10_goOn 4 none 1 := ⟨⟨pw_in (pt_6 (List.mem_of_getElem? (i := 163) (by rfl))) (by rfl), pw_in (pt_1 (List.mem_of_getElem? (i := 16) (by rfl))) (by rfl), by decide +kernel, by decide +kernel, by decide +kernel⟩, pw_in (pt_6 (List.mem_of_getElem? (i := 162) (by rfl))) (by rfl), pw_in (pt_0 (List.mem_of_getElem? (i := 94) (by rfl))) (by rfl)⟩
theorem my_X10_basic : pw_YV yX10_basic cX10_basic 5 (some .int) 2 := ⟨⟨pw_in (pt_6 (List.mem_of_getElem? (i := 167) (by rfl))) (by rfl), pw_in (pt_1 (List.mem_of_getElem? (i := 16) (by rfl))) (by rfl), by decide +kernel, by decide +kernel, by decide +kernel⟩, pw_in (pt_6 (List.mem_of_getElem? (i := 166) (by rfl))) (by rfl), pw_in (pt_0 (List.mem_of_getElem? (i := 95) (by rfl))) (by rfl)⟩
theorem my_X10_truth : pw_YS yX10_truth cX10_truth 1 (some .int) 1 := ⟨⟨pw_in (pt_6 (List.mem_of_getElem? (i := 170) (by rfl))) (by rfl), pw_in (pt_1 (List.mem_of_getElem? (i := 16) (by rfl))) (by rfl), by decide +kernel, by decide +kernel, by decide +kernel⟩, pw_in (pt_6 (List.mem_of_getElem? (i := 169) (by rfl))) (by rfl)⟩
theorem my_X10_numberOf : pw_YV yX10_numberOf cX10_numberOf 2 (some .long) 1 := ⟨⟨pw_in (pt_6 (List.mem_of_getElem? (i := 174) (by rfl))) (by rfl), pw_in (pt_1 (List.mem_of_getElem? (i := 16) (by rfl))) (by rfl), by decide +kernel, by decide +kernel, by decide +kernel⟩, pw_in (pt_6 (List.mem_of_getElem? (i := 173) (by rfl))) (by rfl), pw_in (pt_0 (List.mem_of_getElem? (i := 96) (by rfl))) (by rfl)⟩
theorem my_X10_tellOut : pw_YV yX10_tellOut cX10_tellOut 2 none 1 := ⟨⟨pw_in (pt_6 (List.mem_of_getElem? (i := 178) (by rfl))) (by rfl), pw_in (pt_1 (List.mem_of_getElem? (i := 16) (by rfl))) (by rfl), by decide +kernel, by decide +kernel, by decide +kernel⟩, pw_in (pt_6 (List.mem_of_getElem? (i := 177) (by rfl))) (by rfl), pw_in (pt_0 (List.mem_of_getElem? (i := 97) (by rfl))) (by rfl)⟩
theorem my_X10_tellObject : pw_YV yX10_tellObject cX10_tellObject 4 none 1 := ⟨⟨pw_in (pt_6 (List.mem_of_getElem? (i := 182) (by rfl))) (by rfl), pw_in (pt_1 (List.mem_of_getElem? (i := 16) (by rfl))) (by rfl), by decide +kernel, by decide +kernel, by decide +kernel⟩, pw_in (pt_6 (List.mem_of_getElem? (i := 181) (by rfl))) (by rfl), pw_in (pt_0 (List.mem_of_getElem? (i := 98) (by rfl))) (by rfl)⟩
theorem my_X10_later : pw_YV yX10_later cX10_later 2 none 1 := ⟨⟨pw_in (pt_6 (List.mem_of_getElem? (i := 186) (by rfl))) (by rfl), pw_in (pt_1 (List.mem_of_getElem? (i := 16) (by rfl))) (by rfl), by decide +kernel, by decide +kernel, by decide +kernel⟩, pw_in (pt_6 (List.mem_of_getElem? (i := 185) (by rfl))) (by rfl), pw_in (pt_0 (List.mem_of_getElem? (i := 99) (by rfl))) (by rfl)⟩
theorem my_X10_isFull : pw_YV yX10_isFull cX10_isFull 1 (some .boolean) 0 := ⟨⟨pw_in (pt_6 (List.mem_of_getElem? (i := 190) (by rfl))) (by rfl), pw_in (pt_1 (List.mem_of_getElem? (i := 16) (by rfl))) (by rfl), by decide +kernel, by decide +kernel, by decide +kernel⟩, pw_in (pt_6 (List.mem_of_getElem? (i := 189) (by rfl))) (by rfl), pw_in (pt_0 (List.mem_of_getElem? (i := 100) (by rfl))) (by rfl)⟩
theorem my_X10_tellAtom : pw_YV yX10_tellAtom cX10_tellAtom 4 none 1 := ⟨⟨pw_in (pt_6 (List.mem_of_getElem? (i := 194) (by rfl))) (by rfl), pw_in (pt_1 (List.mem_of_getElem? (i := 16) (by rfl))) (by rfl), by decide +kernel, by decide +kernel, by decide +kernel⟩, pw_in (pt_6 (List.mem_of_getElem? (i := 193) (by rfl))) (by rfl), pw_in (pt_0 (List.mem_of_getElem? (i := 101) (by rfl))) (by rfl)⟩
theorem my_X10_tellLetter : pw_YV yX10_tellLetter cX10_tellLetter 2 none 1 := ⟨⟨pw_in (pt_6 (List.mem_of_getElem? (i := 198) (by rfl))) (by rfl), pw_in (pt_1 (List.mem_of_getElem? (i := 16) (by rfl))) (by rfl), by decide +kernel, by decide +kernel, by decide +kernel⟩, pw_in (pt_6 (List.mem_of_getElem? (i := 197) (by rfl))) (by rfl), pw_in (pt_0 (List.mem_of_getElem? (i := 102) (by rfl))) (by rfl)⟩
theorem my_X10_with : pw_YV yX10_with cX10_with 6 (some .int) 1 := ⟨⟨pw_in (pt_6 (List.mem_of_getElem? (i := 202) (by rfl))) (by rfl), pw_in (pt_1 (List.mem_of_getElem? (i := 16) (by rfl))) (by rfl), by decide +kernel, by decide +kernel, by decide +kernel⟩, pw_in (pt_6 (List.mem_of_getElem? (i := 201) (by rfl))) (by rfl), pw_in (pt_0 (List.mem_of_getElem? (i := 103) (by rfl))) (by rfl)⟩
theorem my_X10_map : pw_YV yX10_map cX10_map 6 (some .int) 1 := ⟨⟨pw_in (pt_6 (List.mem_of_getElem? (i := 206) (by rfl))) (by rfl), pw_in (pt_1 (List.mem_of_getElem? (i := 16) (by rfl))) (by rfl), by decide +kernel, by decide +kernel, by decide +kernel⟩, pw_in (pt_6 (List.mem_of_getElem? (i := 205) (by rfl))) (by rfl), pw_in (pt_0 (List.mem_of_getElem? (i := 104) (by rfl))) (by rfl)⟩
theorem my_X10_isNewName : pw_YV yX10_isNewName cX10_isNewName 2 (some .boolean) 1 := ⟨⟨pw_in (pt_6 (List.mem_of_getElem? (i := 210) (by rfl))) (by rfl), pw_in (pt_1 (List.mem_of_getElem? (i := 16) (by rfl))) (by rfl), by decide +kernel, by decide +kernel, by decide +kernel⟩, pw_in (pt_6 (List.mem_of_getElem? (i := 209) (by rfl))) (by rfl), pw_in (pt_0 (List.mem_of_getElem? (i := 105) (by rfl))) (by rfl)⟩
theorem my_X10_isReserved : pw_YS yX10_isReserved cX10_isReserved 1 (some .boolean) 1 := ⟨⟨pw_in (pt_6 (List.mem_of_getElem? (i := 213) (by rfl))) (by rfl), pw_in (pt_1 (List.mem_of_getElem? (i := 16) (by rfl))) (by rfl), by decide +kernel, by decide +kernel, by decide +kernel⟩, pw_in (pt_6 (List.mem_of_getElem? (i := 212) (by rfl))) (by rfl)⟩
theorem my_X10_definition : pw_YV yX10_definition cX10_definition 3 (some .int) 1 := ⟨⟨pw_in (pt_6 (List.mem_of_getElem? (i := 217) (by rfl))) (by rfl), pw_in (pt_1 (List.mem_of_getElem? (i := 16) (by rfl))) (by rfl), by decide +kernel, by decide +kernel, by decide +kernel⟩, pw_in (pt_6 (List.mem_of_getElem? (i := 216) (by rfl))) (by rfl), pw_in (pt_0 (List.mem_of_getElem? (i := 106) (by rfl))) (by rfl)⟩
theorem my_X10_defun : pw_YV yX10_defun cX10_defun 8 (some .int) 2 := ⟨⟨pw_in (pt_6 (List.mem_of_getElem? (i := 221) (by rfl))) (by rfl), pw_in (pt_1 (List.mem_of_getElem? (i := 16) (by rfl))) (by rfl), by decide +kernel, by decide +kernel, by decide +kernel⟩, pw_in (pt_6 (List.mem_of_getElem? (i := 220) (by rfl))) (by rfl), pw_in (pt_0 (List.mem_of_getElem? (i := 107) (by rfl))) (by rfl)⟩
theorem my_X10_areVariables : pw_YV yX10_areVariables cX10_areVariables 6 (some .boolean) 2 := ⟨⟨pw_in (pt_6 (List.mem_of_getElem? (i := 225) (by rfl))) (by rfl), pw_in (pt_1 (List.mem_of_getElem? (i := 16) (by rfl))) (by rfl), by decide +kernel, by decide +kernel, by decide +kernel⟩, pw_in (pt_6 (List.mem_of_getElem? (i := 224) (by rfl))) (by rfl), pw_in (pt_0 (List.mem_of_getElem? (i := 108) (by rfl))) (by rfl)⟩
theorem my_X10_undo : pw_YV yX10_undo cX10_undo 3 (some .int) 1 := ⟨⟨pw_in (pt_6 (List.mem_of_getElem? (i := 229) (by rfl))) (by rfl), pw_in (pt_1 (List.mem_of_getElem? (i := 16) (by rfl))) (by rfl), by decide +kernel, by decide +kernel, by decide +kernel⟩, pw_in (pt_6 (List.mem_of_getElem? (i := 228) (by rfl))) (by rfl), pw_in (pt_0 (List.mem_of_getElem? (i := 109) (by rfl))) (by rfl)⟩
theorem my_X10_hasCall : pw_YV yX10_hasCall cX10_hasCall 4 (some .boolean) 2 := ⟨⟨pw_in (pt_6 (List.mem_of_getElem? (i := 233) (by rfl))) (by rfl), pw_in (pt_1 (List.mem_of_getElem? (i := 16) (by rfl))) (by rfl), by decide +kernel, by decide +kernel, by decide +kernel⟩, pw_in (pt_6 (List.mem_of_getElem? (i := 232) (by rfl))) (by rfl), pw_in (pt_0 (List.mem_of_getElem? (i := 110) (by rfl))) (by rfl)⟩
theorem my_X10_isCallOf : pw_YV yX10_isCallOf cX10_isCallOf 3 (some .boolean) 2 := ⟨⟨pw_in (pt_6 (List.mem_of_getElem? (i := 237) (by rfl))) (by rfl), pw_in (pt_1 (List.mem_of_getElem? (i := 16) (by rfl))) (by rfl), by decide +kernel, by decide +kernel, by decide +kernel⟩, pw_in (pt_6 (List.mem_of_getElem? (i := 236) (by rfl))) (by rfl), pw_in (pt_0 (List.mem_of_getElem? (i := 111) (by rfl))) (by rfl)⟩
theorem my_X10_show : pw_YV yX10_show cX10_show 5 (some .int) 1 := ⟨⟨pw_in (pt_7 (List.mem_of_getElem? (i := 1) (by rfl))) (by rfl), pw_in (pt_1 (List.mem_of_getElem? (i := 16) (by rfl))) (by rfl), by decide +kernel, by decide +kernel, by decide +kernel⟩, pw_in (pt_7 (List.mem_of_getElem? (i := 0) (by rfl))) (by rfl), pw_in (pt_0 (List.mem_of_getElem? (i := 112) (by rfl))) (by rfl)⟩
theorem my_X10_list4 : pw_YV yX10_list4 cX10_list4 5 (some .int) 4 := ⟨⟨pw_in (pt_7 (List.mem_of_getElem? (i := 5) (by rfl))) (by rfl), pw_in (pt_1 (List.mem_of_getElem? (i := 16) (by rfl))) (by rfl), by decide +kernel, by decide +kernel, by decide +kernel⟩, pw_in (pt_7 (List.mem_of_getElem? (i := 4) (by rfl))) (by rfl), pw_in (pt_0 (List.mem_of_getElem? (i := 113) (by rfl))) (by rfl)⟩
theorem my_X10_list3 : pw_YV yX10_list3 cX10_list3 4 (some .int) 3 := ⟨⟨pw_in (pt_7 (List.mem_of_getElem? (i := 9) (by rfl))) (by rfl), pw_in (pt_1 (List.mem_of_getElem? (i := 16) (by rfl))) (by rfl), by decide +kernel, by decide +kernel, by decide +kernel⟩, pw_in (pt_7 (List.mem_of_getElem? (i := 8) (by rfl))) (by rfl), pw_in (pt_0 (List.mem_of_getElem? (i := 114) (by rfl))) (by rfl)⟩
theorem my_X10_forget : pw_YV yX10_forget cX10_forget 2 none 1 := ⟨⟨pw_in (pt_7 (List.mem_of_getElem? (i := 13) (by rfl))) (by rfl), pw_in (pt_1 (List.mem_of_getElem? (i := 16) (by rfl))) (by rfl), by decide +kernel, by decide +kernel, by decide +kernel⟩, pw_in (pt_7 (List.mem_of_getElem? (i := 12) (by rfl))) (by rfl), pw_in (pt_0 (List.mem_of_getElem? (i := 115) (by rfl))) (by rfl)⟩
theorem my_X10_slotOf : pw_YV yX10_slotOf cX10_slotOf 2 (some .int) 1 := ⟨⟨pw_in (pt_7 (List.mem_of_getElem? (i := 17) (by rfl))) (by rfl), pw_in (pt_1 (List.mem_of_getElem? (i := 16) (by rfl))) (by rfl), by decide +kernel, by decide +kernel, by decide +kernel⟩, pw_in (pt_7 (List.mem_of_getElem? (i := 16) (by rfl))) (by rfl), pw_in (pt_0 (List.mem_of_getElem? (i := 116) (by rfl))) (by rfl)⟩
theorem my_X10_fault : pw_YV yX10_fault cX10_fault 2 (some .int) 1 := ⟨⟨pw_in (pt_7 (List.mem_of_getElem? (i := 21) (by rfl))) (by rfl), pw_in (pt_1 (List.mem_of_getElem? (i := 16) (by rfl))) (by rfl), by decide +kernel, by decide +kernel, by decide +kernel⟩, pw_in (pt_7 (List.mem_of_getElem? (i := 19) (by rfl))) (by rfl), pw_in (pt_7 (List.mem_of_getElem? (i := 20) (by rfl))) (by rfl)⟩
theorem my_X10_steps : pw_YV yX10_steps cX10_steps 1 (some .int) 0 := ⟨⟨pw_in (pt_7 (List.mem_of_getElem? (i := 25) (by rfl))) (by rfl), pw_in (pt_1 (List.mem_of_getElem? (i := 16) (by rfl))) (by rfl), by decide +kernel, by decide +kernel, by decide +kernel⟩, pw_in (pt_7 (List.mem_of_getElem? (i := 23) (by rfl))) (by rfl), pw_in (pt_7 (List.mem_of_getElem? (i := 24) (by rfl))) (by rfl)⟩
theorem my_X10_functions : pw_YV yX10_functions cX10_functions 1 (some .int) 0 := ⟨⟨pw_in (pt_7 (List.mem_of_getElem? (i := 29) (by rfl))) (by rfl), pw_in (pt_1 (List.mem_of_getElem? (i := 16) (by rfl))) (by rfl), by decide +kernel, by decide +kernel, by decide +kernel⟩, pw_in (pt_7 (List.mem_of_getElem? (i := 27) (by rfl))) (by rfl), pw_in (pt_7 (List.mem_of_getElem? (i := 28) (by rfl))) (by rfl)⟩
theorem my_X10_size : pw_YV yX10_size cX10_size 1 (some .int) 0 := ⟨⟨pw_in (pt_7 (List.mem_of_getElem? (i := 33) (by rfl))) (by rfl), pw_in (pt_1 (List.mem_of_getElem? (i := 16) (by rfl))) (by rfl), by decide +kernel, by decide +kernel, by decide +kernel⟩, pw_in (pt_7 (List.mem_of_getElem? (i := 31) (by rfl))) (by rfl), pw_in (pt_7 (List.mem_of_getElem? (i := 32) (by rfl))) (by rfl)⟩
theorem my_X10_letter : pw_YV yX10_letter cX10_letter 2 (some .int) 1 := ⟨⟨pw_in (pt_7 (List.mem_of_getElem? (i := 37) (by rfl))) (by rfl), pw_in (pt_1 (List.mem_of_getElem? (i := 16) (by rfl))) (by rfl), by decide +kernel, by decide +kernel, by decide +kernel⟩, pw_in (pt_7 (List.mem_of_getElem? (i := 35) (by rfl))) (by rfl), pw_in (pt_7 (List.mem_of_getElem? (i := 36) (by rfl))) (by rfl)⟩
theorem ma_max_s : Cond.static Lib.Math.max.name ∈ pw_T := pw_in (pt_1 (List.mem_of_getElem? (i := 103) (by rfl))) (by rfl)
theorem ma_max_c : Cond.code Lib.Math.max.name Lib.Math.max.code 2 (some .int) ∈ pw_T := pw_in (pt_1 (List.mem_of_getElem? (i := 104) (by rfl))) (by rfl)
theorem ma_min_s : Cond.static Lib.Math.min.name ∈ pw_T := pw_in (pt_1 (List.mem_of_getElem? (i := 106) (by rfl))) (by rfl)
theorem ma_min_c : Cond.code Lib.Math.min.name Lib.Math.min.code 2 (some .int) ∈ pw_T := pw_in (pt_1 (List.mem_of_getElem? (i := 107) (by rfl))) (by rfl)
theorem ma_i : Cond.initialized "java/lang/Math" ∈ pw_T := pw_in (pt_1 (List.mem_of_getElem? (i := 8) (by rfl))) (by rfl)
end
section
theorem dX0_init_0 : decode cX0_init 0 = .ok (.aload_n 0, 1) := by decide +kernel
theorem dX0_init_1 : decode cX0_init 1 = .ok (.invokespecial 3, 3) := by decide +kernel
theorem dX0_init_4 : decode cX0_init 4 = .ok (.aload_n 0, 1) := by decide +kernel
theorem dX0_init_5 : decode cX0_init 5 = .ok (.bipush 6, 2) := by decide +kernel
theorem dX0_init_7 : decode cX0_init 7 = .ok (.newarray .int, 2) := by decide +kernel
theorem dX0_init_9 : decode cX0_init 9 = .ok (.putfield 9, 3) := by decide +kernel
theorem dX0_init_12 : decode cX0_init 12 = .ok (.return_, 1) := by decide +kernel
theorem dX0_start_0 : decode cX0_start 0 = .ok (.aload_n 0, 1) := by decide +kernel
theorem dX0_start_1 : decode cX0_start 1 = .ok (.iload_n 1, 1) := by decide +kernel
theorem dX0_start_2 : decode cX0_start 2 = .ok (.putfield 15, 3) := by decide +kernel
theorem dX0_start_5 : decode cX0_start 5 = .ok (.aload_n 0, 1) := by decide +kernel
theorem dX0_start_6 : decode cX0_start 6 = .ok (.aload_n 2, 1) := by decide +kernel
theorem dX0_start_7 : decode cX0_start 7 = .ok (.putfield 19, 3) := by decide +kernel
theorem dX0_start_10 : decode cX0_start 10 = .ok (.aload_n 0, 1) := by decide +kernel
theorem dX0_start_11 : decode cX0_start 11 = .ok (.iload_n 3, 1) := by decide +kernel
theorem dX0_start_12 : decode cX0_start 12 = .ok (.putfield 23, 3) := by decide +kernel
theorem dX0_start_15 : decode cX0_start 15 = .ok (.aload_n 0, 1) := by decide +kernel
theorem dX0_start_16 : decode cX0_start 16 = .ok (.aload 4, 2) := by decide +kernel
theorem dX0_start_18 : decode cX0_start 18 = .ok (.putfield 26, 3) := by decide +kernel
theorem dX0_start_21 : decode cX0_start 21 = .ok (.aload_n 0, 1) := by decide +kernel
theorem dX0_start_22 : decode cX0_start 22 = .ok (.iconst 0, 1) := by decide +kernel
theorem dX0_start_23 : decode cX0_start 23 = .ok (.putfield 30, 3) := by decide +kernel
theorem dX0_start_26 : decode cX0_start 26 = .ok (.aload_n 0, 1) := by decide +kernel
theorem dX0_start_27 : decode cX0_start 27 = .ok (.iconst 0, 1) := by decide +kernel
theorem dX0_start_28 : decode cX0_start 28 = .ok (.putfield 33, 3) := by decide +kernel
theorem dX0_start_31 : decode cX0_start 31 = .ok (.return_, 1) := by decide +kernel
theorem dX0_add_0 : decode cX0_add 0 = .ok (.aload_n 0, 1) := by decide +kernel
theorem dX0_add_1 : decode cX0_add 1 = .ok (.getfield 30, 3) := by decide +kernel
theorem dX0_add_4 : decode cX0_add 4 = .ok (.bipush 6, 2) := by decide +kernel
theorem dX0_add_6 : decode cX0_add 6 = .ok (.if_icmp .ge 23, 3) := by decide +kernel
theorem dX0_add_9 : decode cX0_add 9 = .ok (.aload_n 0, 1) := by decide +kernel
theorem dX0_add_10 : decode cX0_add 10 = .ok (.getfield 9, 3) := by decide +kernel
theorem dX0_add_13 : decode cX0_add 13 = .ok (.aload_n 0, 1) := by decide +kernel
theorem dX0_add_14 : decode cX0_add 14 = .ok (.getfield 30, 3) := by decide +kernel
theorem dX0_add_17 : decode cX0_add 17 = .ok (.iload_n 1, 1) := by decide +kernel
theorem dX0_add_18 : decode cX0_add 18 = .ok (.iastore, 1) := by decide +kernel
theorem dX0_add_19 : decode cX0_add 19 = .ok (.aload_n 0, 1) := by decide +kernel
theorem dX0_add_20 : decode cX0_add 20 = .ok (.dup, 1) := by decide +kernel
theorem dX0_add_21 : decode cX0_add 21 = .ok (.getfield 30, 3) := by decide +kernel
theorem dX0_add_24 : decode cX0_add 24 = .ok (.iconst 1, 1) := by decide +kernel
theorem dX0_add_25 : decode cX0_add 25 = .ok (.iadd, 1) := by decide +kernel
theorem dX0_add_26 : decode cX0_add 26 = .ok (.putfield 30, 3) := by decide +kernel
theorem dX0_add_29 : decode cX0_add 29 = .ok (.return_, 1) := by decide +kernel
theorem dX1_init_0 : decode cX1_init 0 = .ok (.aload_n 0, 1) := by decide +kernel
theorem dX1_init_1 : decode cX1_init 1 = .ok (.invokespecial 3, 3) := by decide +kernel
theorem dX1_init_4 : decode cX1_init 4 = .ok (.aload_n 0, 1) := by decide +kernel
theorem dX1_init_5 : decode cX1_init 5 = .ok (.aload_n 1, 1) := by decide +kernel
theorem dX1_init_6 : decode cX1_init 6 = .ok (.putfield 9, 3) := by decide +kernel
theorem dX1_init_9 : decode cX1_init 9 = .ok (.aload_n 0, 1) := by decide +kernel
theorem dX1_init_10 : decode cX1_init 10 = .ok (.aload_n 2, 1) := by decide +kernel
theorem dX1_init_11 : decode cX1_init 11 = .ok (.putfield 15, 3) := by decide +kernel
theorem dX1_init_14 : decode cX1_init 14 = .ok (.aload_n 0, 1) := by decide +kernel
theorem dX1_init_15 : decode cX1_init 15 = .ok (.aload_n 3, 1) := by decide +kernel
theorem dX1_init_16 : decode cX1_init 16 = .ok (.putfield 19, 3) := by decide +kernel
theorem dX1_init_19 : decode cX1_init 19 = .ok (.aload_n 0, 1) := by decide +kernel
theorem dX1_init_20 : decode cX1_init 20 = .ok (.new 23, 3) := by decide +kernel
theorem dX1_init_23 : decode cX1_init 23 = .ok (.dup, 1) := by decide +kernel
theorem dX1_init_24 : decode cX1_init 24 = .ok (.aload_n 1, 1) := by decide +kernel
theorem dX1_init_25 : decode cX1_init 25 = .ok (.aload_n 2, 1) := by decide +kernel
theorem dX1_init_26 : decode cX1_init 26 = .ok (.invokespecial 25, 3) := by decide +kernel
theorem dX1_init_29 : decode cX1_init 29 = .ok (.putfield 28, 3) := by decide +kernel
theorem dX1_init_32 : decode cX1_init 32 = .ok (.aload_n 0, 1) := by decide +kernel
theorem dX1_init_33 : decode cX1_init 33 = .ok (.aload_n 1, 1) := by decide +kernel
theorem dX1_init_34 : decode cX1_init 34 = .ok (.getfield 32, 3) := by decide +kernel
theorem dX1_init_37 : decode cX1_init 37 = .ok (.putfield 38, 3) := by decide +kernel
theorem dX1_init_40 : decode cX1_init 40 = .ok (.return_, 1) := by decide +kernel
theorem dX1_roomFor_0 : decode cX1_roomFor 0 = .ok (.iconst 3, 1) := by decide +kernel
theorem dX1_roomFor_1 : decode cX1_roomFor 1 = .ok (.iload_n 1, 1) := by decide +kernel
theorem dX1_roomFor_2 : decode cX1_roomFor 2 = .ok (.sipush 1000, 3) := by decide +kernel
theorem dX1_roomFor_5 : decode cX1_roomFor 5 = .ok (.invokestatic 41, 3) := by decide +kernel
theorem dX1_roomFor_8 : decode cX1_roomFor 8 = .ok (.imul, 1) := by decide +kernel
theorem dX1_roomFor_9 : decode cX1_roomFor 9 = .ok (.sipush 1250, 3) := by decide +kernel
theorem dX1_roomFor_12 : decode cX1_roomFor 12 = .ok (.iadd, 1) := by decide +kernel
theorem dX1_roomFor_13 : decode cX1_roomFor 13 = .ok (.ireturn, 1) := by decide +kernel
theorem dX1_perform_0 : decode cX1_perform 0 = .ok (.aload_n 0, 1) := by decide +kernel
theorem dX1_perform_1 : decode cX1_perform 1 = .ok (.getfield 9, 3) := by decide +kernel
theorem dX1_perform_4 : decode cX1_perform 4 = .ok (.iload_n 1, 1) := by decide +kernel
theorem dX1_perform_5 : decode cX1_perform 5 = .ok (.invokevirtual 47, 3) := by decide +kernel
theorem dX1_perform_8 : decode cX1_perform 8 = .ok (.istore_n 2, 1) := by decide +kernel
theorem dX1_perform_9 : decode cX1_perform 9 = .ok (.aload_n 0, 1) := by decide +kernel
theorem dX1_perform_10 : decode cX1_perform 10 = .ok (.getfield 9, 3) := by decide +kernel
theorem dX1_perform_13 : decode cX1_perform 13 = .ok (.iload_n 1, 1) := by decide +kernel
theorem dX1_perform_14 : decode cX1_perform 14 = .ok (.invokevirtual 51, 3) := by decide +kernel
theorem dX1_perform_17 : decode cX1_perform 17 = .ok (.istore_n 3, 1) := by decide +kernel
theorem dX1_perform_18 : decode cX1_perform 18 = .ok (.aload_n 0, 1) := by decide +kernel
theorem dX1_perform_19 : decode cX1_perform 19 = .ok (.getfield 9, 3) := by decide +kernel
theorem dX1_perform_22 : decode cX1_perform 22 = .ok (.iload_n 1, 1) := by decide +kernel
theorem dX1_perform_23 : decode cX1_perform 23 = .ok (.invokevirtual 54, 3) := by decide +kernel
theorem dX1_perform_26 : decode cX1_perform 26 = .ok (.istore 4, 2) := by decide +kernel
theorem dX1_perform_28 : decode cX1_perform 28 = .ok (.aload_n 0, 1) := by decide +kernel
theorem dX1_perform_29 : decode cX1_perform 29 = .ok (.iconst (-1), 1) := by decide +kernel
theorem dX1_perform_30 : decode cX1_perform 30 = .ok (.putfield 57, 3) := by decide +kernel
theorem dX1_perform_33 : decode cX1_perform 33 = .ok (.aload_n 0, 1) := by decide +kernel
theorem dX1_perform_34 : decode cX1_perform 34 = .ok (.getfield 9, 3) := by decide +kernel
theorem dX1_perform_37 : decode cX1_perform 37 = .ok (.iload_n 1, 1) := by decide +kernel
theorem dX1_perform_38 : decode cX1_perform 38 = .ok (.invokevirtual 60, 3) := by decide +kernel
theorem dX1_perform_41 : decode cX1_perform 41 = .ok (.tableswitch 178 17 23 #[43, 60, 82, 99, 124, 149, 163], 43) := by decide +kernel
theorem dX1_perform_84 : decode cX1_perform 84 = .ok (.iload_n 2, 1) := by decide +kernel
theorem dX1_perform_85 : decode cX1_perform 85 = .ok (.iconst 2, 1) := by decide +kernel
theorem dX1_perform_86 : decode cX1_perform 86 = .ok (.if_icmp .ne 13, 3) := by decide +kernel
theorem dX1_perform_89 : decode cX1_perform 89 = .ok (.aload_n 0, 1) := by decide +kernel
theorem dX1_perform_90 : decode cX1_perform 90 = .ok (.iconst 0, 1) := by decide +kernel
theorem dX1_perform_91 : decode cX1_perform 91 = .ok (.iconst 0, 1) := by decide +kernel
theorem dX1_perform_92 : decode cX1_perform 92 = .ok (.iload_n 3, 1) := by decide +kernel
theorem dX1_perform_93 : decode cX1_perform 93 = .ok (.invokevirtual 63, 3) := by decide +kernel
theorem dX1_perform_96 : decode cX1_perform 96 = .ok (.goto 4, 3) := by decide +kernel
theorem dX1_perform_99 : decode cX1_perform 99 = .ok (.iconst 2, 1) := by decide +kernel
theorem dX1_perform_100 : decode cX1_perform 100 = .ok (.ireturn, 1) := by decide +kernel
theorem dX1_perform_101 : decode cX1_perform 101 = .ok (.iload_n 2, 1) := by decide +kernel
theorem dX1_perform_102 : decode cX1_perform 102 = .ok (.iconst 3, 1) := by decide +kernel
theorem dX1_perform_103 : decode cX1_perform 103 = .ok (.if_icmp .ne 18, 3) := by decide +kernel
theorem dX1_perform_106 : decode cX1_perform 106 = .ok (.aload_n 0, 1) := by decide +kernel
theorem dX1_perform_107 : decode cX1_perform 107 = .ok (.aload_n 0, 1) := by decide +kernel
theorem dX1_perform_108 : decode cX1_perform 108 = .ok (.iload_n 3, 1) := by decide +kernel
theorem dX1_perform_109 : decode cX1_perform 109 = .ok (.invokevirtual 67, 3) := by decide +kernel
theorem dX1_perform_112 : decode cX1_perform 112 = .ok (.iload_n 3, 1) := by decide +kernel
theorem dX1_perform_113 : decode cX1_perform 113 = .ok (.iload 4, 2) := by decide +kernel
theorem dX1_perform_115 : decode cX1_perform 115 = .ok (.invokevirtual 63, 3) := by decide +kernel
theorem dX1_perform_118 : decode cX1_perform 118 = .ok (.goto 4, 3) := by decide +kernel
theorem dX1_perform_121 : decode cX1_perform 121 = .ok (.iconst 2, 1) := by decide +kernel
theorem dX1_perform_122 : decode cX1_perform 122 = .ok (.ireturn, 1) := by decide +kernel
theorem dX1_perform_123 : decode cX1_perform 123 = .ok (.iload_n 2, 1) := by decide +kernel
theorem dX1_perform_124 : decode cX1_perform 124 = .ok (.iconst 3, 1) := by decide +kernel
theorem dX1_perform_125 : decode cX1_perform 125 = .ok (.if_icmp .ne 13, 3) := by decide +kernel
theorem dX1_perform_128 : decode cX1_perform 128 = .ok (.aload_n 0, 1) := by decide +kernel
theorem dX1_perform_129 : decode cX1_perform 129 = .ok (.iload_n 3, 1) := by decide +kernel
theorem dX1_perform_130 : decode cX1_perform 130 = .ok (.iload 4, 2) := by decide +kernel
theorem dX1_perform_132 : decode cX1_perform 132 = .ok (.invokevirtual 70, 3) := by decide +kernel
theorem dX1_perform_135 : decode cX1_perform 135 = .ok (.goto 4, 3) := by decide +kernel
theorem dX1_perform_138 : decode cX1_perform 138 = .ok (.iconst 2, 1) := by decide +kernel
theorem dX1_perform_139 : decode cX1_perform 139 = .ok (.ireturn, 1) := by decide +kernel
theorem dX1_perform_140 : decode cX1_perform 140 = .ok (.iload_n 2, 1) := by decide +kernel
theorem dX1_perform_141 : decode cX1_perform 141 = .ok (.iconst 4, 1) := by decide +kernel
theorem dX1_perform_142 : decode cX1_perform 142 = .ok (.if_icmp .ne 21, 3) := by decide +kernel
theorem dX1_perform_145 : decode cX1_perform 145 = .ok (.aload_n 0, 1) := by decide +kernel
theorem dX1_perform_146 : decode cX1_perform 146 = .ok (.iload_n 3, 1) := by decide +kernel
theorem dX1_perform_147 : decode cX1_perform 147 = .ok (.iload 4, 2) := by decide +kernel
theorem dX1_perform_149 : decode cX1_perform 149 = .ok (.aload_n 0, 1) := by decide +kernel
theorem dX1_perform_150 : decode cX1_perform 150 = .ok (.getfield 9, 3) := by decide +kernel
theorem dX1_perform_153 : decode cX1_perform 153 = .ok (.iload_n 1, 1) := by decide +kernel
theorem dX1_perform_154 : decode cX1_perform 154 = .ok (.invokevirtual 73, 3) := by decide +kernel
theorem dX1_perform_157 : decode cX1_perform 157 = .ok (.invokevirtual 76, 3) := by decide +kernel
theorem dX1_perform_160 : decode cX1_perform 160 = .ok (.goto 4, 3) := by decide +kernel
theorem dX1_perform_163 : decode cX1_perform 163 = .ok (.iconst 2, 1) := by decide +kernel
theorem dX1_perform_164 : decode cX1_perform 164 = .ok (.ireturn, 1) := by decide +kernel
theorem dX1_perform_165 : decode cX1_perform 165 = .ok (.iload_n 2, 1) := by decide +kernel
theorem dX1_perform_166 : decode cX1_perform 166 = .ok (.iconst 4, 1) := by decide +kernel
theorem dX1_perform_167 : decode cX1_perform 167 = .ok (.if_icmp .ne 21, 3) := by decide +kernel
theorem dX1_perform_170 : decode cX1_perform 170 = .ok (.aload_n 0, 1) := by decide +kernel
theorem dX1_perform_171 : decode cX1_perform 171 = .ok (.iload_n 3, 1) := by decide +kernel
theorem dX1_perform_172 : decode cX1_perform 172 = .ok (.iload 4, 2) := by decide +kernel
theorem dX1_perform_174 : decode cX1_perform 174 = .ok (.aload_n 0, 1) := by decide +kernel
theorem dX1_perform_175 : decode cX1_perform 175 = .ok (.getfield 9, 3) := by decide +kernel
theorem dX1_perform_178 : decode cX1_perform 178 = .ok (.iload_n 1, 1) := by decide +kernel
theorem dX1_perform_179 : decode cX1_perform 179 = .ok (.invokevirtual 73, 3) := by decide +kernel
theorem dX1_perform_182 : decode cX1_perform 182 = .ok (.invokevirtual 79, 3) := by decide +kernel
theorem dX1_perform_185 : decode cX1_perform 185 = .ok (.goto 4, 3) := by decide +kernel
theorem dX1_perform_188 : decode cX1_perform 188 = .ok (.iconst 2, 1) := by decide +kernel
theorem dX1_perform_189 : decode cX1_perform 189 = .ok (.ireturn, 1) := by decide +kernel
theorem dX1_perform_190 : decode cX1_perform 190 = .ok (.iload_n 2, 1) := by decide +kernel
theorem dX1_perform_191 : decode cX1_perform 191 = .ok (.iconst 1, 1) := by decide +kernel
theorem dX1_perform_192 : decode cX1_perform 192 = .ok (.if_icmp .ne 10, 3) := by decide +kernel
theorem dX1_perform_195 : decode cX1_perform 195 = .ok (.aload_n 0, 1) := by decide +kernel
theorem dX1_perform_196 : decode cX1_perform 196 = .ok (.invokevirtual 82, 3) := by decide +kernel
theorem dX1_perform_199 : decode cX1_perform 199 = .ok (.goto 4, 3) := by decide +kernel
theorem dX1_perform_202 : decode cX1_perform 202 = .ok (.iconst 2, 1) := by decide +kernel
theorem dX1_perform_203 : decode cX1_perform 203 = .ok (.ireturn, 1) := by decide +kernel
theorem dX1_perform_204 : decode cX1_perform 204 = .ok (.iload_n 2, 1) := by decide +kernel
theorem dX1_perform_205 : decode cX1_perform 205 = .ok (.iconst 2, 1) := by decide +kernel
theorem dX1_perform_206 : decode cX1_perform 206 = .ok (.if_icmp .ne 11, 3) := by decide +kernel
theorem dX1_perform_209 : decode cX1_perform 209 = .ok (.aload_n 0, 1) := by decide +kernel
theorem dX1_perform_210 : decode cX1_perform 210 = .ok (.iload_n 3, 1) := by decide +kernel
theorem dX1_perform_211 : decode cX1_perform 211 = .ok (.invokevirtual 86, 3) := by decide +kernel
theorem dX1_perform_214 : decode cX1_perform 214 = .ok (.goto 4, 3) := by decide +kernel
theorem dX1_perform_217 : decode cX1_perform 217 = .ok (.iconst 2, 1) := by decide +kernel
theorem dX1_perform_218 : decode cX1_perform 218 = .ok (.ireturn, 1) := by decide +kernel
theorem dX1_perform_219 : decode cX1_perform 219 = .ok (.iconst 2, 1) := by decide +kernel
theorem dX1_perform_220 : decode cX1_perform 220 = .ok (.ireturn, 1) := by decide +kernel
theorem dX1_evaluate_0 : decode cX1_evaluate 0 = .ok (.iload_n 1, 1) := by decide +kernel
theorem dX1_evaluate_1 : decode cX1_evaluate 1 = .ok (.iconst (-1), 1) := by decide +kernel
theorem dX1_evaluate_2 : decode cX1_evaluate 2 = .ok (.if_icmp .eq 17, 3) := by decide +kernel
theorem dX1_evaluate_5 : decode cX1_evaluate 5 = .ok (.aload_n 0, 1) := by decide +kernel
theorem dX1_evaluate_6 : decode cX1_evaluate 6 = .ok (.getfield 28, 3) := by decide +kernel
theorem dX1_evaluate_9 : decode cX1_evaluate 9 = .ok (.iload_n 3, 1) := by decide +kernel
theorem dX1_evaluate_10 : decode cX1_evaluate 10 = .ok (.iload_n 1, 1) := by decide +kernel
theorem dX1_evaluate_11 : decode cX1_evaluate 11 = .ok (.iconst (-1), 1) := by decide +kernel
theorem dX1_evaluate_12 : decode cX1_evaluate 12 = .ok (.iconst (-1), 1) := by decide +kernel
theorem dX1_evaluate_13 : decode cX1_evaluate 13 = .ok (.invokevirtual 89, 3) := by decide +kernel
theorem dX1_evaluate_16 : decode cX1_evaluate 16 = .ok (.ifCond .ne 5, 3) := by decide +kernel
theorem dX1_evaluate_19 : decode cX1_evaluate 19 = .ok (.iconst 2, 1) := by decide +kernel
theorem dX1_evaluate_20 : decode cX1_evaluate 20 = .ok (.ireturn, 1) := by decide +kernel
theorem dX1_evaluate_21 : decode cX1_evaluate 21 = .ok (.aload_n 0, 1) := by decide +kernel
theorem dX1_evaluate_22 : decode cX1_evaluate 22 = .ok (.getfield 19, 3) := by decide +kernel
theorem dX1_evaluate_25 : decode cX1_evaluate 25 = .ok (.iload_n 2, 1) := by decide +kernel
theorem dX1_evaluate_26 : decode cX1_evaluate 26 = .ok (.iload_n 3, 1) := by decide +kernel
theorem dX1_evaluate_27 : decode cX1_evaluate 27 = .ok (.invokevirtual 93, 3) := by decide +kernel
theorem dX1_evaluate_30 : decode cX1_evaluate 30 = .ok (.aload_n 0, 1) := by decide +kernel
theorem dX1_evaluate_31 : decode cX1_evaluate 31 = .ok (.getfield 19, 3) := by decide +kernel
theorem dX1_evaluate_34 : decode cX1_evaluate 34 = .ok (.invokevirtual 99, 3) := by decide +kernel
theorem dX1_evaluate_37 : decode cX1_evaluate 37 = .ok (.istore 4, 2) := by decide +kernel
theorem dX1_evaluate_39 : decode cX1_evaluate 39 = .ok (.aload_n 0, 1) := by decide +kernel
theorem dX1_evaluate_40 : decode cX1_evaluate 40 = .ok (.getfield 19, 3) := by decide +kernel
theorem dX1_evaluate_43 : decode cX1_evaluate 43 = .ok (.getfield 102, 3) := by decide +kernel
theorem dX1_evaluate_46 : decode cX1_evaluate 46 = .ok (.ifCond .eq 5, 3) := by decide +kernel
theorem dX1_evaluate_49 : decode cX1_evaluate 49 = .ok (.iconst 4, 1) := by decide +kernel
theorem dX1_evaluate_50 : decode cX1_evaluate 50 = .ok (.ireturn, 1) := by decide +kernel
theorem dX1_evaluate_51 : decode cX1_evaluate 51 = .ok (.aload_n 0, 1) := by decide +kernel
theorem dX1_evaluate_52 : decode cX1_evaluate 52 = .ok (.iload 4, 2) := by decide +kernel
theorem dX1_evaluate_54 : decode cX1_evaluate 54 = .ok (.putfield 57, 3) := by decide +kernel
theorem dX1_evaluate_57 : decode cX1_evaluate 57 = .ok (.iconst 0, 1) := by decide +kernel
theorem dX1_evaluate_58 : decode cX1_evaluate 58 = .ok (.ireturn, 1) := by decide +kernel
theorem dX1_boundVariables_0 : decode cX1_boundVariables 0 = .ok (.aload_n 0, 1) := by decide +kernel
theorem dX1_boundVariables_1 : decode cX1_boundVariables 1 = .ok (.getfield 9, 3) := by decide +kernel
theorem dX1_boundVariables_4 : decode cX1_boundVariables 4 = .ok (.iload_n 1, 1) := by decide +kernel
theorem dX1_boundVariables_5 : decode cX1_boundVariables 5 = .ok (.invokevirtual 47, 3) := by decide +kernel
theorem dX1_boundVariables_8 : decode cX1_boundVariables 8 = .ok (.istore_n 2, 1) := by decide +kernel
theorem dX1_boundVariables_9 : decode cX1_boundVariables 9 = .ok (.iconst 0, 1) := by decide +kernel
theorem dX1_boundVariables_10 : decode cX1_boundVariables 10 = .ok (.istore_n 3, 1) := by decide +kernel
theorem dX1_boundVariables_11 : decode cX1_boundVariables 11 = .ok (.iload_n 1, 1) := by decide +kernel
theorem dX1_boundVariables_12 : decode cX1_boundVariables 12 = .ok (.istore 4, 2) := by decide +kernel
theorem dX1_boundVariables_14 : decode cX1_boundVariables 14 = .ok (.iconst 0, 1) := by decide +kernel
theorem dX1_boundVariables_15 : decode cX1_boundVariables 15 = .ok (.istore 5, 2) := by decide +kernel
theorem dX1_boundVariables_17 : decode cX1_boundVariables 17 = .ok (.iload 5, 2) := by decide +kernel
theorem dX1_boundVariables_19 : decode cX1_boundVariables 19 = .ok (.iload_n 2, 1) := by decide +kernel
theorem dX1_boundVariables_20 : decode cX1_boundVariables 20 = .ok (.if_icmp .ge 93, 3) := by decide +kernel
theorem dX1_boundVariables_23 : decode cX1_boundVariables 23 = .ok (.aload_n 0, 1) := by decide +kernel
theorem dX1_boundVariables_24 : decode cX1_boundVariables 24 = .ok (.getfield 9, 3) := by decide +kernel
theorem dX1_boundVariables_27 : decode cX1_boundVariables 27 = .ok (.iload 4, 2) := by decide +kernel
theorem dX1_boundVariables_29 : decode cX1_boundVariables 29 = .ok (.invokevirtual 60, 3) := by decide +kernel
theorem dX1_boundVariables_32 : decode cX1_boundVariables 32 = .ok (.istore 6, 2) := by decide +kernel
theorem dX1_boundVariables_34 : decode cX1_boundVariables 34 = .ok (.aload_n 0, 1) := by decide +kernel
theorem dX1_boundVariables_35 : decode cX1_boundVariables 35 = .ok (.getfield 9, 3) := by decide +kernel
theorem dX1_boundVariables_38 : decode cX1_boundVariables 38 = .ok (.iload 6, 2) := by decide +kernel
theorem dX1_boundVariables_40 : decode cX1_boundVariables 40 = .ok (.invokevirtual 60, 3) := by decide +kernel
theorem dX1_boundVariables_43 : decode cX1_boundVariables 43 = .ok (.istore 7, 2) := by decide +kernel
theorem dX1_boundVariables_45 : decode cX1_boundVariables 45 = .ok (.aload_n 0, 1) := by decide +kernel
theorem dX1_boundVariables_46 : decode cX1_boundVariables 46 = .ok (.getfield 9, 3) := by decide +kernel
theorem dX1_boundVariables_49 : decode cX1_boundVariables 49 = .ok (.iload 6, 2) := by decide +kernel
theorem dX1_boundVariables_51 : decode cX1_boundVariables 51 = .ok (.invokevirtual 47, 3) := by decide +kernel
theorem dX1_boundVariables_54 : decode cX1_boundVariables 54 = .ok (.iconst 2, 1) := by decide +kernel
theorem dX1_boundVariables_55 : decode cX1_boundVariables 55 = .ok (.if_icmp .ne 28, 3) := by decide +kernel
theorem dX1_boundVariables_58 : decode cX1_boundVariables 58 = .ok (.aload_n 0, 1) := by decide +kernel
theorem dX1_boundVariables_59 : decode cX1_boundVariables 59 = .ok (.getfield 9, 3) := by decide +kernel
theorem dX1_boundVariables_62 : decode cX1_boundVariables 62 = .ok (.iload 7, 2) := by decide +kernel
theorem dX1_boundVariables_64 : decode cX1_boundVariables 64 = .ok (.invokevirtual 105, 3) := by decide +kernel
theorem dX1_boundVariables_67 : decode cX1_boundVariables 67 = .ok (.ifCond .eq 16, 3) := by decide +kernel
theorem dX1_boundVariables_70 : decode cX1_boundVariables 70 = .ok (.aload_n 0, 1) := by decide +kernel
theorem dX1_boundVariables_71 : decode cX1_boundVariables 71 = .ok (.getfield 9, 3) := by decide +kernel
theorem dX1_boundVariables_74 : decode cX1_boundVariables 74 = .ok (.iload 7, 2) := by decide +kernel
theorem dX1_boundVariables_76 : decode cX1_boundVariables 76 = .ok (.iload_n 3, 1) := by decide +kernel
theorem dX1_boundVariables_77 : decode cX1_boundVariables 77 = .ok (.invokevirtual 109, 3) := by decide +kernel
theorem dX1_boundVariables_80 : decode cX1_boundVariables 80 = .ok (.ifCond .eq 5, 3) := by decide +kernel
theorem dX1_boundVariables_83 : decode cX1_boundVariables 83 = .ok (.iconst (-1), 1) := by decide +kernel
theorem dX1_boundVariables_84 : decode cX1_boundVariables 84 = .ok (.ireturn, 1) := by decide +kernel
theorem dX1_boundVariables_85 : decode cX1_boundVariables 85 = .ok (.aload_n 0, 1) := by decide +kernel
theorem dX1_boundVariables_86 : decode cX1_boundVariables 86 = .ok (.getfield 9, 3) := by decide +kernel
theorem dX1_boundVariables_89 : decode cX1_boundVariables 89 = .ok (.iload 7, 2) := by decide +kernel
theorem dX1_boundVariables_91 : decode cX1_boundVariables 91 = .ok (.iload_n 3, 1) := by decide +kernel
theorem dX1_boundVariables_92 : decode cX1_boundVariables 92 = .ok (.invokevirtual 113, 3) := by decide +kernel
theorem dX1_boundVariables_95 : decode cX1_boundVariables 95 = .ok (.istore_n 3, 1) := by decide +kernel
theorem dX1_boundVariables_96 : decode cX1_boundVariables 96 = .ok (.aload_n 0, 1) := by decide +kernel
theorem dX1_boundVariables_97 : decode cX1_boundVariables 97 = .ok (.getfield 9, 3) := by decide +kernel
theorem dX1_boundVariables_100 : decode cX1_boundVariables 100 = .ok (.iload 4, 2) := by decide +kernel
theorem dX1_boundVariables_102 : decode cX1_boundVariables 102 = .ok (.invokevirtual 116, 3) := by decide +kernel
theorem dX1_boundVariables_105 : decode cX1_boundVariables 105 = .ok (.istore 4, 2) := by decide +kernel
theorem dX1_boundVariables_107 : decode cX1_boundVariables 107 = .ok (.iinc 5 1, 3) := by decide +kernel
theorem dX1_boundVariables_110 : decode cX1_boundVariables 110 = .ok (.goto (-93), 3) := by decide +kernel
theorem dX1_boundVariables_113 : decode cX1_boundVariables 113 = .ok (.iload_n 2, 1) := by decide +kernel
theorem dX1_boundVariables_114 : decode cX1_boundVariables 114 = .ok (.iconst (-1), 1) := by decide +kernel
theorem dX1_boundVariables_115 : decode cX1_boundVariables 115 = .ok (.if_icmp .ne 7, 3) := by decide +kernel
theorem dX1_boundVariables_118 : decode cX1_boundVariables 118 = .ok (.iconst (-1), 1) := by decide +kernel
theorem dX1_boundVariables_119 : decode cX1_boundVariables 119 = .ok (.goto 4, 3) := by decide +kernel
theorem dX1_boundVariables_122 : decode cX1_boundVariables 122 = .ok (.iload_n 3, 1) := by decide +kernel
theorem dX1_boundVariables_123 : decode cX1_boundVariables 123 = .ok (.ireturn, 1) := by decide +kernel
theorem dX1_map_0 : decode cX1_map 0 = .ok (.aload_n 0, 1) := by decide +kernel
theorem dX1_map_1 : decode cX1_map 1 = .ok (.getfield 9, 3) := by decide +kernel
theorem dX1_map_4 : decode cX1_map 4 = .ok (.iload_n 2, 1) := by decide +kernel
theorem dX1_map_5 : decode cX1_map 5 = .ok (.invokevirtual 47, 3) := by decide +kernel
theorem dX1_map_8 : decode cX1_map 8 = .ok (.istore_n 3, 1) := by decide +kernel
theorem dX1_map_9 : decode cX1_map 9 = .ok (.aload_n 0, 1) := by decide +kernel
theorem dX1_map_10 : decode cX1_map 10 = .ok (.iload_n 1, 1) := by decide +kernel
theorem dX1_map_11 : decode cX1_map 11 = .ok (.invokevirtual 119, 3) := by decide +kernel
theorem dX1_map_14 : decode cX1_map 14 = .ok (.ifCond .eq 8, 3) := by decide +kernel
theorem dX1_map_17 : decode cX1_map 17 = .ok (.iload_n 3, 1) := by decide +kernel
theorem dX1_map_18 : decode cX1_map 18 = .ok (.iconst (-1), 1) := by decide +kernel
theorem dX1_map_19 : decode cX1_map 19 = .ok (.if_icmp .ne 5, 3) := by decide +kernel
theorem dX1_map_22 : decode cX1_map 22 = .ok (.iconst 2, 1) := by decide +kernel
theorem dX1_map_23 : decode cX1_map 23 = .ok (.ireturn, 1) := by decide +kernel
theorem dX1_map_24 : decode cX1_map 24 = .ok (.aload_n 0, 1) := by decide +kernel
theorem dX1_map_25 : decode cX1_map 25 = .ok (.getfield 15, 3) := by decide +kernel
theorem dX1_map_28 : decode cX1_map 28 = .ok (.iload_n 1, 1) := by decide +kernel
theorem dX1_map_29 : decode cX1_map 29 = .ok (.invokevirtual 122, 3) := by decide +kernel
theorem dX1_map_32 : decode cX1_map 32 = .ok (.astore 4, 2) := by decide +kernel
theorem dX1_map_34 : decode cX1_map 34 = .ok (.aload 4, 2) := by decide +kernel
theorem dX1_map_36 : decode cX1_map 36 = .ok (.ifnonnull 5, 3) := by decide +kernel
theorem dX1_map_39 : decode cX1_map 39 = .ok (.iconst 3, 1) := by decide +kernel
theorem dX1_map_40 : decode cX1_map 40 = .ok (.ireturn, 1) := by decide +kernel
theorem dX1_map_41 : decode cX1_map 41 = .ok (.aload 4, 2) := by decide +kernel
theorem dX1_map_43 : decode cX1_map 43 = .ok (.getfield 128, 3) := by decide +kernel
theorem dX1_map_46 : decode cX1_map 46 = .ok (.iconst 1, 1) := by decide +kernel
theorem dX1_map_47 : decode cX1_map 47 = .ok (.if_icmp .eq 5, 3) := by decide +kernel
theorem dX1_map_50 : decode cX1_map 50 = .ok (.iconst 2, 1) := by decide +kernel
theorem dX1_map_51 : decode cX1_map 51 = .ok (.ireturn, 1) := by decide +kernel
theorem dX1_map_52 : decode cX1_map 52 = .ok (.iconst 0, 1) := by decide +kernel
theorem dX1_map_53 : decode cX1_map 53 = .ok (.istore 5, 2) := by decide +kernel
theorem dX1_map_55 : decode cX1_map 55 = .ok (.iload_n 2, 1) := by decide +kernel
theorem dX1_map_56 : decode cX1_map 56 = .ok (.istore 6, 2) := by decide +kernel
theorem dX1_map_58 : decode cX1_map 58 = .ok (.iconst 0, 1) := by decide +kernel
theorem dX1_map_59 : decode cX1_map 59 = .ok (.istore 7, 2) := by decide +kernel
theorem dX1_map_61 : decode cX1_map 61 = .ok (.iload 7, 2) := by decide +kernel
theorem dX1_map_63 : decode cX1_map 63 = .ok (.iload_n 3, 1) := by decide +kernel
theorem dX1_map_64 : decode cX1_map 64 = .ok (.if_icmp .ge 72, 3) := by decide +kernel
theorem dX1_map_67 : decode cX1_map 67 = .ok (.aload_n 0, 1) := by decide +kernel
theorem dX1_map_68 : decode cX1_map 68 = .ok (.getfield 19, 3) := by decide +kernel
theorem dX1_map_71 : decode cX1_map 71 = .ok (.aload 4, 2) := by decide +kernel
theorem dX1_map_73 : decode cX1_map 73 = .ok (.aload_n 0, 1) := by decide +kernel
theorem dX1_map_74 : decode cX1_map 74 = .ok (.getfield 9, 3) := by decide +kernel
theorem dX1_map_77 : decode cX1_map 77 = .ok (.iload 6, 2) := by decide +kernel
theorem dX1_map_79 : decode cX1_map 79 = .ok (.invokevirtual 60, 3) := by decide +kernel
theorem dX1_map_82 : decode cX1_map 82 = .ok (.invokevirtual 133, 3) := by decide +kernel
theorem dX1_map_85 : decode cX1_map 85 = .ok (.aload_n 0, 1) := by decide +kernel
theorem dX1_map_86 : decode cX1_map 86 = .ok (.getfield 19, 3) := by decide +kernel
theorem dX1_map_89 : decode cX1_map 89 = .ok (.invokevirtual 99, 3) := by decide +kernel
theorem dX1_map_92 : decode cX1_map 92 = .ok (.istore 8, 2) := by decide +kernel
theorem dX1_map_94 : decode cX1_map 94 = .ok (.aload_n 0, 1) := by decide +kernel
theorem dX1_map_95 : decode cX1_map 95 = .ok (.getfield 19, 3) := by decide +kernel
theorem dX1_map_98 : decode cX1_map 98 = .ok (.getfield 102, 3) := by decide +kernel
theorem dX1_map_101 : decode cX1_map 101 = .ok (.ifCond .eq 5, 3) := by decide +kernel
theorem dX1_map_104 : decode cX1_map 104 = .ok (.iconst 4, 1) := by decide +kernel
theorem dX1_map_105 : decode cX1_map 105 = .ok (.ireturn, 1) := by decide +kernel
theorem dX1_map_106 : decode cX1_map 106 = .ok (.aload_n 0, 1) := by decide +kernel
theorem dX1_map_107 : decode cX1_map 107 = .ok (.getfield 9, 3) := by decide +kernel
theorem dX1_map_110 : decode cX1_map 110 = .ok (.iload 8, 2) := by decide +kernel
theorem dX1_map_112 : decode cX1_map 112 = .ok (.iload 5, 2) := by decide +kernel
theorem dX1_map_114 : decode cX1_map 114 = .ok (.invokevirtual 113, 3) := by decide +kernel
theorem dX1_map_117 : decode cX1_map 117 = .ok (.istore 5, 2) := by decide +kernel
theorem dX1_map_119 : decode cX1_map 119 = .ok (.aload_n 0, 1) := by decide +kernel
theorem dX1_map_120 : decode cX1_map 120 = .ok (.getfield 9, 3) := by decide +kernel
theorem dX1_map_123 : decode cX1_map 123 = .ok (.iload 6, 2) := by decide +kernel
theorem dX1_map_125 : decode cX1_map 125 = .ok (.invokevirtual 116, 3) := by decide +kernel
theorem dX1_map_128 : decode cX1_map 128 = .ok (.istore 6, 2) := by decide +kernel
theorem dX1_map_130 : decode cX1_map 130 = .ok (.iinc 7 1, 3) := by decide +kernel
theorem dX1_map_133 : decode cX1_map 133 = .ok (.goto (-72), 3) := by decide +kernel
theorem dX1_map_136 : decode cX1_map 136 = .ok (.aload_n 0, 1) := by decide +kernel
theorem dX1_map_137 : decode cX1_map 137 = .ok (.aload_n 0, 1) := by decide +kernel
theorem dX1_map_138 : decode cX1_map 138 = .ok (.iload 5, 2) := by decide +kernel
theorem dX1_map_140 : decode cX1_map 140 = .ok (.iload_n 3, 1) := by decide +kernel
theorem dX1_map_141 : decode cX1_map 141 = .ok (.invokevirtual 137, 3) := by decide +kernel
theorem dX1_map_144 : decode cX1_map 144 = .ok (.putfield 57, 3) := by decide +kernel
theorem dX1_map_147 : decode cX1_map 147 = .ok (.iconst 0, 1) := by decide +kernel
theorem dX1_map_148 : decode cX1_map 148 = .ok (.ireturn, 1) := by decide +kernel
theorem dX1_reversed_0 : decode cX1_reversed 0 = .ok (.iconst 0, 1) := by decide +kernel
theorem dX1_reversed_1 : decode cX1_reversed 1 = .ok (.istore_n 3, 1) := by decide +kernel
theorem dX1_reversed_2 : decode cX1_reversed 2 = .ok (.iload_n 1, 1) := by decide +kernel
theorem dX1_reversed_3 : decode cX1_reversed 3 = .ok (.istore 4, 2) := by decide +kernel
theorem dX1_reversed_5 : decode cX1_reversed 5 = .ok (.iconst 0, 1) := by decide +kernel
theorem dX1_reversed_6 : decode cX1_reversed 6 = .ok (.istore 5, 2) := by decide +kernel
theorem dX1_reversed_8 : decode cX1_reversed 8 = .ok (.iload 5, 2) := by decide +kernel
theorem dX1_reversed_10 : decode cX1_reversed 10 = .ok (.iload_n 2, 1) := by decide +kernel
theorem dX1_reversed_11 : decode cX1_reversed 11 = .ok (.if_icmp .ge 38, 3) := by decide +kernel
theorem dX1_reversed_14 : decode cX1_reversed 14 = .ok (.aload_n 0, 1) := by decide +kernel
theorem dX1_reversed_15 : decode cX1_reversed 15 = .ok (.getfield 9, 3) := by decide +kernel
theorem dX1_reversed_18 : decode cX1_reversed 18 = .ok (.aload_n 0, 1) := by decide +kernel
theorem dX1_reversed_19 : decode cX1_reversed 19 = .ok (.getfield 9, 3) := by decide +kernel
theorem dX1_reversed_22 : decode cX1_reversed 22 = .ok (.iload 4, 2) := by decide +kernel
theorem dX1_reversed_24 : decode cX1_reversed 24 = .ok (.invokevirtual 60, 3) := by decide +kernel
theorem dX1_reversed_27 : decode cX1_reversed 27 = .ok (.iload_n 3, 1) := by decide +kernel
theorem dX1_reversed_28 : decode cX1_reversed 28 = .ok (.invokevirtual 113, 3) := by decide +kernel
theorem dX1_reversed_31 : decode cX1_reversed 31 = .ok (.istore_n 3, 1) := by decide +kernel
theorem dX1_reversed_32 : decode cX1_reversed 32 = .ok (.aload_n 0, 1) := by decide +kernel
theorem dX1_reversed_33 : decode cX1_reversed 33 = .ok (.getfield 9, 3) := by decide +kernel
theorem dX1_reversed_36 : decode cX1_reversed 36 = .ok (.iload 4, 2) := by decide +kernel
theorem dX1_reversed_38 : decode cX1_reversed 38 = .ok (.invokevirtual 116, 3) := by decide +kernel
theorem dX1_reversed_41 : decode cX1_reversed 41 = .ok (.istore 4, 2) := by decide +kernel
theorem dX1_reversed_43 : decode cX1_reversed 43 = .ok (.iinc 5 1, 3) := by decide +kernel
theorem dX1_reversed_46 : decode cX1_reversed 46 = .ok (.goto (-38), 3) := by decide +kernel
theorem dX1_reversed_49 : decode cX1_reversed 49 = .ok (.iload_n 3, 1) := by decide +kernel
theorem dX1_reversed_50 : decode cX1_reversed 50 = .ok (.ireturn, 1) := by decide +kernel
theorem dX1_define_0 : decode cX1_define 0 = .ok (.aload_n 0, 1) := by decide +kernel
theorem dX1_define_1 : decode cX1_define 1 = .ok (.iload_n 1, 1) := by decide +kernel
theorem dX1_define_2 : decode cX1_define 2 = .ok (.iload_n 2, 1) := by decide +kernel
theorem dX1_define_3 : decode cX1_define 3 = .ok (.iload_n 3, 1) := by decide +kernel
theorem dX1_define_4 : decode cX1_define 4 = .ok (.invokevirtual 140, 3) := by decide +kernel
theorem dX1_define_7 : decode cX1_define 7 = .ok (.ifCond .ne 5, 3) := by decide +kernel
theorem dX1_define_10 : decode cX1_define 10 = .ok (.iconst 2, 1) := by decide +kernel
theorem dX1_define_11 : decode cX1_define 11 = .ok (.ireturn, 1) := by decide +kernel
theorem dX1_define_12 : decode cX1_define 12 = .ok (.aload_n 0, 1) := by decide +kernel
theorem dX1_define_13 : decode cX1_define 13 = .ok (.getfield 15, 3) := by decide +kernel
theorem dX1_define_16 : decode cX1_define 16 = .ok (.iload_n 1, 1) := by decide +kernel
theorem dX1_define_17 : decode cX1_define 17 = .ok (.invokevirtual 122, 3) := by decide +kernel
theorem dX1_define_20 : decode cX1_define 20 = .ok (.ifnull 5, 3) := by decide +kernel
theorem dX1_define_23 : decode cX1_define 23 = .ok (.iconst 3, 1) := by decide +kernel
theorem dX1_define_24 : decode cX1_define 24 = .ok (.ireturn, 1) := by decide +kernel
theorem dX1_define_25 : decode cX1_define 25 = .ok (.aload_n 0, 1) := by decide +kernel
theorem dX1_define_26 : decode cX1_define 26 = .ok (.getfield 15, 3) := by decide +kernel
theorem dX1_define_29 : decode cX1_define 29 = .ok (.invokevirtual 144, 3) := by decide +kernel
theorem dX1_define_32 : decode cX1_define 32 = .ok (.ifCond .eq 6, 3) := by decide +kernel
theorem dX1_define_35 : decode cX1_define 35 = .ok (.bipush 8, 2) := by decide +kernel
theorem dX1_define_37 : decode cX1_define 37 = .ok (.ireturn, 1) := by decide +kernel
theorem dX1_define_38 : decode cX1_define 38 = .ok (.aload_n 0, 1) := by decide +kernel
theorem dX1_define_39 : decode cX1_define 39 = .ok (.getfield 15, 3) := by decide +kernel
theorem dX1_define_42 : decode cX1_define 42 = .ok (.new 129, 3) := by decide +kernel
theorem dX1_define_45 : decode cX1_define 45 = .ok (.dup, 1) := by decide +kernel
theorem dX1_define_46 : decode cX1_define 46 = .ok (.iload_n 1, 1) := by decide +kernel
theorem dX1_define_47 : decode cX1_define 47 = .ok (.aload_n 0, 1) := by decide +kernel
theorem dX1_define_48 : decode cX1_define 48 = .ok (.getfield 9, 3) := by decide +kernel
theorem dX1_define_51 : decode cX1_define 51 = .ok (.iload_n 2, 1) := by decide +kernel
theorem dX1_define_52 : decode cX1_define 52 = .ok (.invokevirtual 47, 3) := by decide +kernel
theorem dX1_define_55 : decode cX1_define 55 = .ok (.iload_n 2, 1) := by decide +kernel
theorem dX1_define_56 : decode cX1_define 56 = .ok (.iload_n 3, 1) := by decide +kernel
theorem dX1_define_57 : decode cX1_define 57 = .ok (.invokespecial 148, 3) := by decide +kernel
theorem dX1_define_60 : decode cX1_define 60 = .ok (.invokevirtual 151, 3) := by decide +kernel
theorem dX1_define_63 : decode cX1_define 63 = .ok (.aload_n 0, 1) := by decide +kernel
theorem dX1_define_64 : decode cX1_define 64 = .ok (.aload_n 0, 1) := by decide +kernel
theorem dX1_define_65 : decode cX1_define 65 = .ok (.getfield 9, 3) := by decide +kernel
theorem dX1_define_68 : decode cX1_define 68 = .ok (.getfield 32, 3) := by decide +kernel
theorem dX1_define_71 : decode cX1_define 71 = .ok (.putfield 38, 3) := by decide +kernel
theorem dX1_define_74 : decode cX1_define 74 = .ok (.iconst 0, 1) := by decide +kernel
theorem dX1_define_75 : decode cX1_define 75 = .ok (.ireturn, 1) := by decide +kernel
theorem dX1_defineAnew_0 : decode cX1_defineAnew 0 = .ok (.aload_n 0, 1) := by decide +kernel
theorem dX1_defineAnew_1 : decode cX1_defineAnew 1 = .ok (.iload_n 1, 1) := by decide +kernel
theorem dX1_defineAnew_2 : decode cX1_defineAnew 2 = .ok (.iload_n 2, 1) := by decide +kernel
theorem dX1_defineAnew_3 : decode cX1_defineAnew 3 = .ok (.iload_n 3, 1) := by decide +kernel
theorem dX1_defineAnew_4 : decode cX1_defineAnew 4 = .ok (.invokevirtual 140, 3) := by decide +kernel
theorem dX1_defineAnew_7 : decode cX1_defineAnew 7 = .ok (.ifCond .ne 5, 3) := by decide +kernel
theorem dX1_defineAnew_10 : decode cX1_defineAnew 10 = .ok (.iconst 2, 1) := by decide +kernel
theorem dX1_defineAnew_11 : decode cX1_defineAnew 11 = .ok (.ireturn, 1) := by decide +kernel
theorem dX1_defineAnew_12 : decode cX1_defineAnew 12 = .ok (.aload_n 0, 1) := by decide +kernel
theorem dX1_defineAnew_13 : decode cX1_defineAnew 13 = .ok (.getfield 15, 3) := by decide +kernel
theorem dX1_defineAnew_16 : decode cX1_defineAnew 16 = .ok (.iload_n 1, 1) := by decide +kernel
theorem dX1_defineAnew_17 : decode cX1_defineAnew 17 = .ok (.invokevirtual 122, 3) := by decide +kernel
theorem dX1_defineAnew_20 : decode cX1_defineAnew 20 = .ok (.astore 4, 2) := by decide +kernel
theorem dX1_defineAnew_22 : decode cX1_defineAnew 22 = .ok (.aload 4, 2) := by decide +kernel
theorem dX1_defineAnew_24 : decode cX1_defineAnew 24 = .ok (.ifnonnull 5, 3) := by decide +kernel
theorem dX1_defineAnew_27 : decode cX1_defineAnew 27 = .ok (.iconst 3, 1) := by decide +kernel
theorem dX1_defineAnew_28 : decode cX1_defineAnew 28 = .ok (.ireturn, 1) := by decide +kernel
theorem dX1_defineAnew_29 : decode cX1_defineAnew 29 = .ok (.aload 4, 2) := by decide +kernel
theorem dX1_defineAnew_31 : decode cX1_defineAnew 31 = .ok (.getfield 128, 3) := by decide +kernel
theorem dX1_defineAnew_34 : decode cX1_defineAnew 34 = .ok (.aload_n 0, 1) := by decide +kernel
theorem dX1_defineAnew_35 : decode cX1_defineAnew 35 = .ok (.getfield 9, 3) := by decide +kernel
theorem dX1_defineAnew_38 : decode cX1_defineAnew 38 = .ok (.iload_n 2, 1) := by decide +kernel
theorem dX1_defineAnew_39 : decode cX1_defineAnew 39 = .ok (.invokevirtual 47, 3) := by decide +kernel
theorem dX1_defineAnew_42 : decode cX1_defineAnew 42 = .ok (.if_icmp .eq 5, 3) := by decide +kernel
theorem dX1_defineAnew_45 : decode cX1_defineAnew 45 = .ok (.iconst 2, 1) := by decide +kernel
theorem dX1_defineAnew_46 : decode cX1_defineAnew 46 = .ok (.ireturn, 1) := by decide +kernel
theorem dX1_defineAnew_47 : decode cX1_defineAnew 47 = .ok (.aload 4, 2) := by decide +kernel
theorem dX1_defineAnew_49 : decode cX1_defineAnew 49 = .ok (.iload_n 2, 1) := by decide +kernel
theorem dX1_defineAnew_50 : decode cX1_defineAnew 50 = .ok (.putfield 155, 3) := by decide +kernel
theorem dX1_defineAnew_53 : decode cX1_defineAnew 53 = .ok (.aload 4, 2) := by decide +kernel
theorem dX1_defineAnew_55 : decode cX1_defineAnew 55 = .ok (.iload_n 3, 1) := by decide +kernel
theorem dX1_defineAnew_56 : decode cX1_defineAnew 56 = .ok (.putfield 158, 3) := by decide +kernel
theorem dX1_defineAnew_59 : decode cX1_defineAnew 59 = .ok (.aload_n 0, 1) := by decide +kernel
theorem dX1_defineAnew_60 : decode cX1_defineAnew 60 = .ok (.aload_n 0, 1) := by decide +kernel
theorem dX1_defineAnew_61 : decode cX1_defineAnew 61 = .ok (.getfield 9, 3) := by decide +kernel
theorem dX1_defineAnew_64 : decode cX1_defineAnew 64 = .ok (.getfield 32, 3) := by decide +kernel
theorem dX1_defineAnew_67 : decode cX1_defineAnew 67 = .ok (.putfield 38, 3) := by decide +kernel
theorem dX1_defineAnew_70 : decode cX1_defineAnew 70 = .ok (.iconst 0, 1) := by decide +kernel
theorem dX1_defineAnew_71 : decode cX1_defineAnew 71 = .ok (.ireturn, 1) := by decide +kernel
theorem dX1_isDefinition_0 : decode cX1_isDefinition 0 = .ok (.aload_n 0, 1) := by decide +kernel
theorem dX1_isDefinition_1 : decode cX1_isDefinition 1 = .ok (.iload_n 1, 1) := by decide +kernel
theorem dX1_isDefinition_2 : decode cX1_isDefinition 2 = .ok (.invokevirtual 119, 3) := by decide +kernel
theorem dX1_isDefinition_5 : decode cX1_isDefinition 5 = .ok (.ifCond .eq 36, 3) := by decide +kernel
theorem dX1_isDefinition_8 : decode cX1_isDefinition 8 = .ok (.aload_n 0, 1) := by decide +kernel
theorem dX1_isDefinition_9 : decode cX1_isDefinition 9 = .ok (.iload_n 2, 1) := by decide +kernel
theorem dX1_isDefinition_10 : decode cX1_isDefinition 10 = .ok (.invokevirtual 161, 3) := by decide +kernel
theorem dX1_isDefinition_13 : decode cX1_isDefinition 13 = .ok (.ifCond .eq 28, 3) := by decide +kernel
theorem dX1_isDefinition_16 : decode cX1_isDefinition 16 = .ok (.aload_n 0, 1) := by decide +kernel
theorem dX1_isDefinition_17 : decode cX1_isDefinition 17 = .ok (.getfield 28, 3) := by decide +kernel
theorem dX1_isDefinition_20 : decode cX1_isDefinition 20 = .ok (.iload_n 3, 1) := by decide +kernel
theorem dX1_isDefinition_21 : decode cX1_isDefinition 21 = .ok (.iload_n 2, 1) := by decide +kernel
theorem dX1_isDefinition_22 : decode cX1_isDefinition 22 = .ok (.iload_n 1, 1) := by decide +kernel
theorem dX1_isDefinition_23 : decode cX1_isDefinition 23 = .ok (.aload_n 0, 1) := by decide +kernel
theorem dX1_isDefinition_24 : decode cX1_isDefinition 24 = .ok (.getfield 9, 3) := by decide +kernel
theorem dX1_isDefinition_27 : decode cX1_isDefinition 27 = .ok (.iload_n 2, 1) := by decide +kernel
theorem dX1_isDefinition_28 : decode cX1_isDefinition 28 = .ok (.invokevirtual 47, 3) := by decide +kernel
theorem dX1_isDefinition_31 : decode cX1_isDefinition 31 = .ok (.invokevirtual 89, 3) := by decide +kernel
theorem dX1_isDefinition_34 : decode cX1_isDefinition 34 = .ok (.ifCond .eq 7, 3) := by decide +kernel
theorem dX1_isDefinition_37 : decode cX1_isDefinition 37 = .ok (.iconst 1, 1) := by decide +kernel
theorem dX1_isDefinition_38 : decode cX1_isDefinition 38 = .ok (.goto 4, 3) := by decide +kernel
theorem dX1_isDefinition_41 : decode cX1_isDefinition 41 = .ok (.iconst 0, 1) := by decide +kernel
theorem dX1_isDefinition_42 : decode cX1_isDefinition 42 = .ok (.ireturn, 1) := by decide +kernel
theorem dX1_undo_0 : decode cX1_undo 0 = .ok (.aload_n 0, 1) := by decide +kernel
theorem dX1_undo_1 : decode cX1_undo 1 = .ok (.getfield 15, 3) := by decide +kernel
theorem dX1_undo_4 : decode cX1_undo 4 = .ok (.aload_n 0, 1) := by decide +kernel
theorem dX1_undo_5 : decode cX1_undo 5 = .ok (.getfield 15, 3) := by decide +kernel
theorem dX1_undo_8 : decode cX1_undo 8 = .ok (.getfield 164, 3) := by decide +kernel
theorem dX1_undo_11 : decode cX1_undo 11 = .ok (.iconst 1, 1) := by decide +kernel
theorem dX1_undo_12 : decode cX1_undo 12 = .ok (.isub, 1) := by decide +kernel
theorem dX1_undo_13 : decode cX1_undo 13 = .ok (.invokevirtual 165, 3) := by decide +kernel
theorem dX1_undo_16 : decode cX1_undo 16 = .ok (.astore_n 1, 1) := by decide +kernel
theorem dX1_undo_17 : decode cX1_undo 17 = .ok (.aload_n 1, 1) := by decide +kernel
theorem dX1_undo_18 : decode cX1_undo 18 = .ok (.ifnonnull 5, 3) := by decide +kernel
theorem dX1_undo_21 : decode cX1_undo 21 = .ok (.iconst 3, 1) := by decide +kernel
theorem dX1_undo_22 : decode cX1_undo 22 = .ok (.ireturn, 1) := by decide +kernel
theorem dX1_undo_23 : decode cX1_undo 23 = .ok (.iconst 0, 1) := by decide +kernel
theorem dX1_undo_24 : decode cX1_undo 24 = .ok (.istore_n 2, 1) := by decide +kernel
theorem dX1_undo_25 : decode cX1_undo 25 = .ok (.iload_n 2, 1) := by decide +kernel
theorem dX1_undo_26 : decode cX1_undo 26 = .ok (.aload_n 0, 1) := by decide +kernel
theorem dX1_undo_27 : decode cX1_undo 27 = .ok (.getfield 15, 3) := by decide +kernel
theorem dX1_undo_30 : decode cX1_undo 30 = .ok (.getfield 164, 3) := by decide +kernel
theorem dX1_undo_33 : decode cX1_undo 33 = .ok (.iconst 1, 1) := by decide +kernel
theorem dX1_undo_34 : decode cX1_undo 34 = .ok (.isub, 1) := by decide +kernel
theorem dX1_undo_35 : decode cX1_undo 35 = .ok (.if_icmp .ge 42, 3) := by decide +kernel
theorem dX1_undo_38 : decode cX1_undo 38 = .ok (.aload_n 0, 1) := by decide +kernel
theorem dX1_undo_39 : decode cX1_undo 39 = .ok (.getfield 15, 3) := by decide +kernel
theorem dX1_undo_42 : decode cX1_undo 42 = .ok (.iload_n 2, 1) := by decide +kernel
theorem dX1_undo_43 : decode cX1_undo 43 = .ok (.invokevirtual 165, 3) := by decide +kernel
theorem dX1_undo_46 : decode cX1_undo 46 = .ok (.astore_n 3, 1) := by decide +kernel
theorem dX1_undo_47 : decode cX1_undo 47 = .ok (.aload_n 3, 1) := by decide +kernel
theorem dX1_undo_48 : decode cX1_undo 48 = .ok (.ifnull 23, 3) := by decide +kernel
theorem dX1_undo_51 : decode cX1_undo 51 = .ok (.aload_n 0, 1) := by decide +kernel
theorem dX1_undo_52 : decode cX1_undo 52 = .ok (.getfield 28, 3) := by decide +kernel
theorem dX1_undo_55 : decode cX1_undo 55 = .ok (.aload_n 1, 1) := by decide +kernel
theorem dX1_undo_56 : decode cX1_undo 56 = .ok (.getfield 168, 3) := by decide +kernel
theorem dX1_undo_59 : decode cX1_undo 59 = .ok (.aload_n 3, 1) := by decide +kernel
theorem dX1_undo_60 : decode cX1_undo 60 = .ok (.getfield 158, 3) := by decide +kernel
theorem dX1_undo_63 : decode cX1_undo 63 = .ok (.invokevirtual 171, 3) := by decide +kernel
theorem dX1_undo_66 : decode cX1_undo 66 = .ok (.ifCond .eq 5, 3) := by decide +kernel
theorem dX1_undo_69 : decode cX1_undo 69 = .ok (.iconst 3, 1) := by decide +kernel
theorem dX1_undo_70 : decode cX1_undo 70 = .ok (.ireturn, 1) := by decide +kernel
theorem dX1_undo_71 : decode cX1_undo 71 = .ok (.iinc 2 1, 3) := by decide +kernel
theorem dX1_undo_74 : decode cX1_undo 74 = .ok (.goto (-49), 3) := by decide +kernel
theorem dX1_undo_77 : decode cX1_undo 77 = .ok (.aload_n 0, 1) := by decide +kernel
theorem dX1_undo_78 : decode cX1_undo 78 = .ok (.getfield 15, 3) := by decide +kernel
theorem dX1_undo_81 : decode cX1_undo 81 = .ok (.invokevirtual 174, 3) := by decide +kernel
theorem dX1_undo_84 : decode cX1_undo 84 = .ok (.iconst 0, 1) := by decide +kernel
theorem dX1_undo_85 : decode cX1_undo 85 = .ok (.ireturn, 1) := by decide +kernel
theorem dX1_show_0 : decode cX1_show 0 = .ok (.aload_n 0, 1) := by decide +kernel
theorem dX1_show_1 : decode cX1_show 1 = .ok (.iload_n 1, 1) := by decide +kernel
theorem dX1_show_2 : decode cX1_show 2 = .ok (.invokevirtual 119, 3) := by decide +kernel
theorem dX1_show_5 : decode cX1_show 5 = .ok (.ifCond .ne 5, 3) := by decide +kernel
theorem dX1_show_8 : decode cX1_show 8 = .ok (.iconst 2, 1) := by decide +kernel
theorem dX1_show_9 : decode cX1_show 9 = .ok (.ireturn, 1) := by decide +kernel
theorem dX1_show_10 : decode cX1_show 10 = .ok (.aload_n 0, 1) := by decide +kernel
theorem dX1_show_11 : decode cX1_show 11 = .ok (.getfield 15, 3) := by decide +kernel
theorem dX1_show_14 : decode cX1_show 14 = .ok (.iload_n 1, 1) := by decide +kernel
theorem dX1_show_15 : decode cX1_show 15 = .ok (.invokevirtual 122, 3) := by decide +kernel
theorem dX1_show_18 : decode cX1_show 18 = .ok (.astore_n 2, 1) := by decide +kernel
theorem dX1_show_19 : decode cX1_show 19 = .ok (.aload_n 2, 1) := by decide +kernel
theorem dX1_show_20 : decode cX1_show 20 = .ok (.ifnonnull 5, 3) := by decide +kernel
theorem dX1_show_23 : decode cX1_show 23 = .ok (.iconst 3, 1) := by decide +kernel
theorem dX1_show_24 : decode cX1_show 24 = .ok (.ireturn, 1) := by decide +kernel
theorem dX1_show_25 : decode cX1_show 25 = .ok (.aload_n 0, 1) := by decide +kernel
theorem dX1_show_26 : decode cX1_show 26 = .ok (.getfield 9, 3) := by decide +kernel
theorem dX1_show_29 : decode cX1_show 29 = .ok (.aload_n 0, 1) := by decide +kernel
theorem dX1_show_30 : decode cX1_show 30 = .ok (.getfield 28, 3) := by decide +kernel
theorem dX1_show_33 : decode cX1_show 33 = .ok (.aload_n 2, 1) := by decide +kernel
theorem dX1_show_34 : decode cX1_show 34 = .ok (.getfield 158, 3) := by decide +kernel
theorem dX1_show_37 : decode cX1_show 37 = .ok (.invokevirtual 177, 3) := by decide +kernel
theorem dX1_show_40 : decode cX1_show 40 = .ok (.iconst 0, 1) := by decide +kernel
theorem dX1_show_41 : decode cX1_show 41 = .ok (.invokevirtual 113, 3) := by decide +kernel
theorem dX1_show_44 : decode cX1_show 44 = .ok (.istore_n 3, 1) := by decide +kernel
theorem dX1_show_45 : decode cX1_show 45 = .ok (.aload_n 0, 1) := by decide +kernel
theorem dX1_show_46 : decode cX1_show 46 = .ok (.getfield 9, 3) := by decide +kernel
theorem dX1_show_49 : decode cX1_show 49 = .ok (.aload_n 2, 1) := by decide +kernel
theorem dX1_show_50 : decode cX1_show 50 = .ok (.getfield 155, 3) := by decide +kernel
theorem dX1_show_53 : decode cX1_show 53 = .ok (.iload_n 3, 1) := by decide +kernel
theorem dX1_show_54 : decode cX1_show 54 = .ok (.invokevirtual 113, 3) := by decide +kernel
theorem dX1_show_57 : decode cX1_show 57 = .ok (.istore_n 3, 1) := by decide +kernel
theorem dX1_show_58 : decode cX1_show 58 = .ok (.aload_n 0, 1) := by decide +kernel
theorem dX1_show_59 : decode cX1_show 59 = .ok (.getfield 9, 3) := by decide +kernel
theorem dX1_show_62 : decode cX1_show 62 = .ok (.aload_n 2, 1) := by decide +kernel
theorem dX1_show_63 : decode cX1_show 63 = .ok (.getfield 168, 3) := by decide +kernel
theorem dX1_show_66 : decode cX1_show 66 = .ok (.iload_n 3, 1) := by decide +kernel
theorem dX1_show_67 : decode cX1_show 67 = .ok (.invokevirtual 113, 3) := by decide +kernel
theorem dX1_show_70 : decode cX1_show 70 = .ok (.istore_n 3, 1) := by decide +kernel
theorem dX1_show_71 : decode cX1_show 71 = .ok (.aload_n 0, 1) := by decide +kernel
theorem dX1_show_72 : decode cX1_show 72 = .ok (.aload_n 0, 1) := by decide +kernel
theorem dX1_show_73 : decode cX1_show 73 = .ok (.getfield 9, 3) := by decide +kernel
theorem dX1_show_76 : decode cX1_show 76 = .ok (.bipush 20, 2) := by decide +kernel
theorem dX1_show_78 : decode cX1_show 78 = .ok (.iload_n 3, 1) := by decide +kernel
theorem dX1_show_79 : decode cX1_show 79 = .ok (.invokevirtual 113, 3) := by decide +kernel
theorem dX1_show_82 : decode cX1_show 82 = .ok (.putfield 57, 3) := by decide +kernel
theorem dX1_show_85 : decode cX1_show 85 = .ok (.iconst 0, 1) := by decide +kernel
theorem dX1_show_86 : decode cX1_show 86 = .ok (.ireturn, 1) := by decide +kernel
theorem dX1_isFunctionName_0 : decode cX1_isFunctionName 0 = .ok (.aload_n 0, 1) := by decide +kernel
theorem dX1_isFunctionName_1 : decode cX1_isFunctionName 1 = .ok (.getfield 9, 3) := by decide +kernel
theorem dX1_isFunctionName_4 : decode cX1_isFunctionName 4 = .ok (.iload_n 1, 1) := by decide +kernel
theorem dX1_isFunctionName_5 : decode cX1_isFunctionName 5 = .ok (.invokevirtual 180, 3) := by decide +kernel
theorem dX1_isFunctionName_8 : decode cX1_isFunctionName 8 = .ok (.ifCond .eq 13, 3) := by decide +kernel
theorem dX1_isFunctionName_11 : decode cX1_isFunctionName 11 = .ok (.iload_n 1, 1) := by decide +kernel
theorem dX1_isFunctionName_12 : decode cX1_isFunctionName 12 = .ok (.bipush 16, 2) := by decide +kernel
theorem dX1_isFunctionName_14 : decode cX1_isFunctionName 14 = .ok (.if_icmp .le 7, 3) := by decide +kernel
theorem dX1_isFunctionName_17 : decode cX1_isFunctionName 17 = .ok (.iconst 1, 1) := by decide +kernel
theorem dX1_isFunctionName_18 : decode cX1_isFunctionName 18 = .ok (.goto 4, 3) := by decide +kernel
theorem dX1_isFunctionName_21 : decode cX1_isFunctionName 21 = .ok (.iconst 0, 1) := by decide +kernel
theorem dX1_isFunctionName_22 : decode cX1_isFunctionName 22 = .ok (.ireturn, 1) := by decide +kernel
theorem dX1_areParameters_0 : decode cX1_areParameters 0 = .ok (.aload_n 0, 1) := by decide +kernel
theorem dX1_areParameters_1 : decode cX1_areParameters 1 = .ok (.getfield 9, 3) := by decide +kernel
theorem dX1_areParameters_4 : decode cX1_areParameters 4 = .ok (.iload_n 1, 1) := by decide +kernel
theorem dX1_areParameters_5 : decode cX1_areParameters 5 = .ok (.invokevirtual 47, 3) := by decide +kernel
theorem dX1_areParameters_8 : decode cX1_areParameters 8 = .ok (.istore_n 2, 1) := by decide +kernel
theorem dX1_areParameters_9 : decode cX1_areParameters 9 = .ok (.iload_n 2, 1) := by decide +kernel
theorem dX1_areParameters_10 : decode cX1_areParameters 10 = .ok (.iconst (-1), 1) := by decide +kernel
theorem dX1_areParameters_11 : decode cX1_areParameters 11 = .ok (.if_icmp .eq 9, 3) := by decide +kernel
theorem dX1_areParameters_14 : decode cX1_areParameters 14 = .ok (.iload_n 2, 1) := by decide +kernel
theorem dX1_areParameters_15 : decode cX1_areParameters 15 = .ok (.bipush 6, 2) := by decide +kernel
theorem dX1_areParameters_17 : decode cX1_areParameters 17 = .ok (.if_icmp .le 5, 3) := by decide +kernel
theorem dX1_areParameters_20 : decode cX1_areParameters 20 = .ok (.iconst 0, 1) := by decide +kernel
theorem dX1_areParameters_21 : decode cX1_areParameters 21 = .ok (.ireturn, 1) := by decide +kernel
theorem dX1_areParameters_22 : decode cX1_areParameters 22 = .ok (.iload_n 1, 1) := by decide +kernel
theorem dX1_areParameters_23 : decode cX1_areParameters 23 = .ok (.istore_n 3, 1) := by decide +kernel
theorem dX1_areParameters_24 : decode cX1_areParameters 24 = .ok (.iconst 0, 1) := by decide +kernel
theorem dX1_areParameters_25 : decode cX1_areParameters 25 = .ok (.istore 4, 2) := by decide +kernel
theorem dX1_areParameters_27 : decode cX1_areParameters 27 = .ok (.iload 4, 2) := by decide +kernel
theorem dX1_areParameters_29 : decode cX1_areParameters 29 = .ok (.iload_n 2, 1) := by decide +kernel
theorem dX1_areParameters_30 : decode cX1_areParameters 30 = .ok (.if_icmp .ge 55, 3) := by decide +kernel
theorem dX1_areParameters_33 : decode cX1_areParameters 33 = .ok (.aload_n 0, 1) := by decide +kernel
theorem dX1_areParameters_34 : decode cX1_areParameters 34 = .ok (.getfield 9, 3) := by decide +kernel
theorem dX1_areParameters_37 : decode cX1_areParameters 37 = .ok (.iload_n 3, 1) := by decide +kernel
theorem dX1_areParameters_38 : decode cX1_areParameters 38 = .ok (.invokevirtual 60, 3) := by decide +kernel
theorem dX1_areParameters_41 : decode cX1_areParameters 41 = .ok (.istore 5, 2) := by decide +kernel
theorem dX1_areParameters_43 : decode cX1_areParameters 43 = .ok (.aload_n 0, 1) := by decide +kernel
theorem dX1_areParameters_44 : decode cX1_areParameters 44 = .ok (.getfield 9, 3) := by decide +kernel
theorem dX1_areParameters_47 : decode cX1_areParameters 47 = .ok (.iload_n 3, 1) := by decide +kernel
theorem dX1_areParameters_48 : decode cX1_areParameters 48 = .ok (.invokevirtual 116, 3) := by decide +kernel
theorem dX1_areParameters_51 : decode cX1_areParameters 51 = .ok (.istore_n 3, 1) := by decide +kernel
theorem dX1_areParameters_52 : decode cX1_areParameters 52 = .ok (.aload_n 0, 1) := by decide +kernel
theorem dX1_areParameters_53 : decode cX1_areParameters 53 = .ok (.getfield 9, 3) := by decide +kernel
theorem dX1_areParameters_56 : decode cX1_areParameters 56 = .ok (.iload 5, 2) := by decide +kernel
theorem dX1_areParameters_58 : decode cX1_areParameters 58 = .ok (.invokevirtual 105, 3) := by decide +kernel
theorem dX1_areParameters_61 : decode cX1_areParameters 61 = .ok (.ifCond .eq 16, 3) := by decide +kernel
theorem dX1_areParameters_64 : decode cX1_areParameters 64 = .ok (.aload_n 0, 1) := by decide +kernel
theorem dX1_areParameters_65 : decode cX1_areParameters 65 = .ok (.getfield 9, 3) := by decide +kernel
theorem dX1_areParameters_68 : decode cX1_areParameters 68 = .ok (.iload 5, 2) := by decide +kernel
theorem dX1_areParameters_70 : decode cX1_areParameters 70 = .ok (.iload_n 3, 1) := by decide +kernel
theorem dX1_areParameters_71 : decode cX1_areParameters 71 = .ok (.invokevirtual 109, 3) := by decide +kernel
theorem dX1_areParameters_74 : decode cX1_areParameters 74 = .ok (.ifCond .eq 5, 3) := by decide +kernel
theorem dX1_areParameters_77 : decode cX1_areParameters 77 = .ok (.iconst 0, 1) := by decide +kernel
theorem dX1_areParameters_78 : decode cX1_areParameters 78 = .ok (.ireturn, 1) := by decide +kernel
theorem dX1_areParameters_79 : decode cX1_areParameters 79 = .ok (.iinc 4 1, 3) := by decide +kernel
theorem dX1_areParameters_82 : decode cX1_areParameters 82 = .ok (.goto (-55), 3) := by decide +kernel
theorem dX1_areParameters_85 : decode cX1_areParameters 85 = .ok (.iconst 1, 1) := by decide +kernel
theorem dX1_areParameters_86 : decode cX1_areParameters 86 = .ok (.ireturn, 1) := by decide +kernel
theorem dX2_init_0 : decode cX2_init 0 = .ok (.aload_n 0, 1) := by decide +kernel
theorem dX2_init_1 : decode cX2_init 1 = .ok (.invokespecial 1, 3) := by decide +kernel
theorem dX2_init_4 : decode cX2_init 4 = .ok (.aload_n 0, 1) := by decide +kernel
theorem dX2_init_5 : decode cX2_init 5 = .ok (.iload_n 1, 1) := by decide +kernel
theorem dX2_init_6 : decode cX2_init 6 = .ok (.putfield 7, 3) := by decide +kernel
theorem dX2_init_9 : decode cX2_init 9 = .ok (.aload_n 0, 1) := by decide +kernel
theorem dX2_init_10 : decode cX2_init 10 = .ok (.iload_n 2, 1) := by decide +kernel
theorem dX2_init_11 : decode cX2_init 11 = .ok (.putfield 13, 3) := by decide +kernel
theorem dX2_init_14 : decode cX2_init 14 = .ok (.aload_n 0, 1) := by decide +kernel
theorem dX2_init_15 : decode cX2_init 15 = .ok (.iload_n 3, 1) := by decide +kernel
theorem dX2_init_16 : decode cX2_init 16 = .ok (.putfield 16, 3) := by decide +kernel
theorem dX2_init_19 : decode cX2_init 19 = .ok (.aload_n 0, 1) := by decide +kernel
theorem dX2_init_20 : decode cX2_init 20 = .ok (.iload 4, 2) := by decide +kernel
theorem dX2_init_22 : decode cX2_init 22 = .ok (.putfield 19, 3) := by decide +kernel
theorem dX2_init_25 : decode cX2_init 25 = .ok (.return_, 1) := by decide +kernel
theorem dX3_init_0 : decode cX3_init 0 = .ok (.aload_n 0, 1) := by decide +kernel
theorem dX3_init_1 : decode cX3_init 1 = .ok (.invokespecial 3, 3) := by decide +kernel
theorem dX3_init_4 : decode cX3_init 4 = .ok (.aload_n 0, 1) := by decide +kernel
theorem dX3_init_5 : decode cX3_init 5 = .ok (.sipush 300, 3) := by decide +kernel
theorem dX3_init_8 : decode cX3_init 8 = .ok (.anewarray 11, 3) := by decide +kernel
theorem dX3_init_11 : decode cX3_init 11 = .ok (.putfield 13, 3) := by decide +kernel
theorem dX3_init_14 : decode cX3_init 14 = .ok (.aload_n 0, 1) := by decide +kernel
theorem dX3_init_15 : decode cX3_init 15 = .ok (.sipush 1000, 3) := by decide +kernel
theorem dX3_init_18 : decode cX3_init 18 = .ok (.putfield 17, 3) := by decide +kernel
theorem dX3_init_21 : decode cX3_init 21 = .ok (.aload_n 0, 1) := by decide +kernel
theorem dX3_init_22 : decode cX3_init 22 = .ok (.aload_n 1, 1) := by decide +kernel
theorem dX3_init_23 : decode cX3_init 23 = .ok (.putfield 21, 3) := by decide +kernel
theorem dX3_init_26 : decode cX3_init 26 = .ok (.aload_n 0, 1) := by decide +kernel
theorem dX3_init_27 : decode cX3_init 27 = .ok (.aload_n 2, 1) := by decide +kernel
theorem dX3_init_28 : decode cX3_init 28 = .ok (.putfield 25, 3) := by decide +kernel
theorem dX3_init_31 : decode cX3_init 31 = .ok (.return_, 1) := by decide +kernel
theorem dX3_clear_0 : decode cX3_clear 0 = .ok (.aload_n 0, 1) := by decide +kernel
theorem dX3_clear_1 : decode cX3_clear 1 = .ok (.iconst 0, 1) := by decide +kernel
theorem dX3_clear_2 : decode cX3_clear 2 = .ok (.putfield 29, 3) := by decide +kernel
theorem dX3_clear_5 : decode cX3_clear 5 = .ok (.aload_n 0, 1) := by decide +kernel
theorem dX3_clear_6 : decode cX3_clear 6 = .ok (.iconst 0, 1) := by decide +kernel
theorem dX3_clear_7 : decode cX3_clear 7 = .ok (.putfield 32, 3) := by decide +kernel
theorem dX3_clear_10 : decode cX3_clear 10 = .ok (.return_, 1) := by decide +kernel
theorem dX3_beginWith_0 : decode cX3_beginWith 0 = .ok (.aload_n 0, 1) := by decide +kernel
theorem dX3_beginWith_1 : decode cX3_beginWith 1 = .ok (.iconst 0, 1) := by decide +kernel
theorem dX3_beginWith_2 : decode cX3_beginWith 2 = .ok (.putfield 35, 3) := by decide +kernel
theorem dX3_beginWith_5 : decode cX3_beginWith 5 = .ok (.aload_n 0, 1) := by decide +kernel
theorem dX3_beginWith_6 : decode cX3_beginWith 6 = .ok (.iload_n 1, 1) := by decide +kernel
theorem dX3_beginWith_7 : decode cX3_beginWith 7 = .ok (.putfield 38, 3) := by decide +kernel
theorem dX3_beginWith_10 : decode cX3_beginWith 10 = .ok (.aload_n 0, 1) := by decide +kernel
theorem dX3_beginWith_11 : decode cX3_beginWith 11 = .ok (.iload_n 2, 1) := by decide +kernel
theorem dX3_beginWith_12 : decode cX3_beginWith 12 = .ok (.aconst_null, 1) := by decide +kernel
theorem dX3_beginWith_13 : decode cX3_beginWith 13 = .ok (.invokevirtual 41, 3) := by decide +kernel
theorem dX3_beginWith_16 : decode cX3_beginWith 16 = .ok (.return_, 1) := by decide +kernel
theorem dX3_beginCall_0 : decode cX3_beginCall 0 = .ok (.aload_n 0, 1) := by decide +kernel
theorem dX3_beginCall_1 : decode cX3_beginCall 1 = .ok (.iconst 0, 1) := by decide +kernel
theorem dX3_beginCall_2 : decode cX3_beginCall 2 = .ok (.putfield 35, 3) := by decide +kernel
theorem dX3_beginCall_5 : decode cX3_beginCall 5 = .ok (.aload_n 0, 1) := by decide +kernel
theorem dX3_beginCall_6 : decode cX3_beginCall 6 = .ok (.aconst_null, 1) := by decide +kernel
theorem dX3_beginCall_7 : decode cX3_beginCall 7 = .ok (.putfield 45, 3) := by decide +kernel
theorem dX3_beginCall_10 : decode cX3_beginCall 10 = .ok (.aload_n 0, 1) := by decide +kernel
theorem dX3_beginCall_11 : decode cX3_beginCall 11 = .ok (.aload_n 1, 1) := by decide +kernel
theorem dX3_beginCall_12 : decode cX3_beginCall 12 = .ok (.getfield 49, 3) := by decide +kernel
theorem dX3_beginCall_15 : decode cX3_beginCall 15 = .ok (.iconst 0, 1) := by decide +kernel
theorem dX3_beginCall_16 : decode cX3_beginCall 16 = .ok (.invokevirtual 54, 3) := by decide +kernel
theorem dX3_beginCall_19 : decode cX3_beginCall 19 = .ok (.aload_n 0, 1) := by decide +kernel
theorem dX3_beginCall_20 : decode cX3_beginCall 20 = .ok (.getfield 32, 3) := by decide +kernel
theorem dX3_beginCall_23 : decode cX3_beginCall 23 = .ok (.ifCond .ne 22, 3) := by decide +kernel
theorem dX3_beginCall_26 : decode cX3_beginCall 26 = .ok (.aload_n 0, 1) := by decide +kernel
theorem dX3_beginCall_27 : decode cX3_beginCall 27 = .ok (.getfield 13, 3) := by decide +kernel
theorem dX3_beginCall_30 : decode cX3_beginCall 30 = .ok (.iconst 0, 1) := by decide +kernel
theorem dX3_beginCall_31 : decode cX3_beginCall 31 = .ok (.aaload, 1) := by decide +kernel
theorem dX3_beginCall_32 : decode cX3_beginCall 32 = .ok (.ifnull 13, 3) := by decide +kernel
theorem dX3_beginCall_35 : decode cX3_beginCall 35 = .ok (.aload_n 0, 1) := by decide +kernel
theorem dX3_beginCall_36 : decode cX3_beginCall 36 = .ok (.getfield 13, 3) := by decide +kernel
theorem dX3_beginCall_39 : decode cX3_beginCall 39 = .ok (.iconst 0, 1) := by decide +kernel
theorem dX3_beginCall_40 : decode cX3_beginCall 40 = .ok (.aaload, 1) := by decide +kernel
theorem dX3_beginCall_41 : decode cX3_beginCall 41 = .ok (.iload_n 2, 1) := by decide +kernel
theorem dX3_beginCall_42 : decode cX3_beginCall 42 = .ok (.invokevirtual 58, 3) := by decide +kernel
theorem dX3_beginCall_45 : decode cX3_beginCall 45 = .ok (.return_, 1) := by decide +kernel
theorem dX3_finish_0 : decode cX3_finish 0 = .ok (.iconst 0, 1) := by decide +kernel
theorem dX3_finish_1 : decode cX3_finish 1 = .ok (.istore_n 1, 1) := by decide +kernel
theorem dX3_finish_2 : decode cX3_finish 2 = .ok (.iload_n 1, 1) := by decide +kernel
theorem dX3_finish_3 : decode cX3_finish 3 = .ok (.ldc 62, 2) := by decide +kernel
theorem dX3_finish_5 : decode cX3_finish 5 = .ok (.if_icmp .ge 171, 3) := by decide +kernel
theorem dX3_finish_8 : decode cX3_finish 8 = .ok (.aload_n 0, 1) := by decide +kernel
theorem dX3_finish_9 : decode cX3_finish 9 = .ok (.getfield 32, 3) := by decide +kernel
theorem dX3_finish_12 : decode cX3_finish 12 = .ok (.ifCond .ne 164, 3) := by decide +kernel
theorem dX3_finish_15 : decode cX3_finish 15 = .ok (.aload_n 0, 1) := by decide +kernel
theorem dX3_finish_16 : decode cX3_finish 16 = .ok (.getfield 35, 3) := by decide +kernel
theorem dX3_finish_19 : decode cX3_finish 19 = .ok (.ifCond .le 27, 3) := by decide +kernel
theorem dX3_finish_22 : decode cX3_finish 22 = .ok (.aload_n 0, 1) := by decide +kernel
theorem dX3_finish_23 : decode cX3_finish 23 = .ok (.getfield 35, 3) := by decide +kernel
theorem dX3_finish_26 : decode cX3_finish 26 = .ok (.sipush 300, 3) := by decide +kernel
theorem dX3_finish_29 : decode cX3_finish 29 = .ok (.if_icmp .gt 17, 3) := by decide +kernel
theorem dX3_finish_32 : decode cX3_finish 32 = .ok (.aload_n 0, 1) := by decide +kernel
theorem dX3_finish_33 : decode cX3_finish 33 = .ok (.getfield 13, 3) := by decide +kernel
theorem dX3_finish_36 : decode cX3_finish 36 = .ok (.aload_n 0, 1) := by decide +kernel
theorem dX3_finish_37 : decode cX3_finish 37 = .ok (.getfield 35, 3) := by decide +kernel
theorem dX3_finish_40 : decode cX3_finish 40 = .ok (.iconst 1, 1) := by decide +kernel
theorem dX3_finish_41 : decode cX3_finish 41 = .ok (.isub, 1) := by decide +kernel
theorem dX3_finish_42 : decode cX3_finish 42 = .ok (.aaload, 1) := by decide +kernel
theorem dX3_finish_43 : decode cX3_finish 43 = .ok (.goto 4, 3) := by decide +kernel
theorem dX3_finish_46 : decode cX3_finish 46 = .ok (.aconst_null, 1) := by decide +kernel
theorem dX3_finish_47 : decode cX3_finish 47 = .ok (.astore_n 2, 1) := by decide +kernel
theorem dX3_finish_48 : decode cX3_finish 48 = .ok (.aload_n 0, 1) := by decide +kernel
theorem dX3_finish_49 : decode cX3_finish 49 = .ok (.getfield 63, 3) := by decide +kernel
theorem dX3_finish_52 : decode cX3_finish 52 = .ok (.ifCond .ne 10, 3) := by decide +kernel
theorem dX3_finish_55 : decode cX3_finish 55 = .ok (.aload_n 0, 1) := by decide +kernel
theorem dX3_finish_56 : decode cX3_finish 56 = .ok (.invokevirtual 66, 3) := by decide +kernel
theorem dX3_finish_59 : decode cX3_finish 59 = .ok (.goto 111, 3) := by decide +kernel
theorem dX3_finish_62 : decode cX3_finish 62 = .ok (.aload_n 2, 1) := by decide +kernel
theorem dX3_finish_63 : decode cX3_finish 63 = .ok (.ifnonnull 8, 3) := by decide +kernel
theorem dX3_finish_66 : decode cX3_finish 66 = .ok (.aload_n 0, 1) := by decide +kernel
theorem dX3_finish_67 : decode cX3_finish 67 = .ok (.getfield 69, 3) := by decide +kernel
theorem dX3_finish_70 : decode cX3_finish 70 = .ok (.ireturn, 1) := by decide +kernel
theorem dX3_finish_71 : decode cX3_finish 71 = .ok (.aload_n 0, 1) := by decide +kernel
theorem dX3_finish_72 : decode cX3_finish 72 = .ok (.getfield 63, 3) := by decide +kernel
theorem dX3_finish_75 : decode cX3_finish 75 = .ok (.iconst 1, 1) := by decide +kernel
theorem dX3_finish_76 : decode cX3_finish 76 = .ok (.if_icmp .ne 11, 3) := by decide +kernel
theorem dX3_finish_79 : decode cX3_finish 79 = .ok (.aload_n 0, 1) := by decide +kernel
theorem dX3_finish_80 : decode cX3_finish 80 = .ok (.aload_n 2, 1) := by decide +kernel
theorem dX3_finish_81 : decode cX3_finish 81 = .ok (.invokevirtual 72, 3) := by decide +kernel
theorem dX3_finish_84 : decode cX3_finish 84 = .ok (.goto 86, 3) := by decide +kernel
theorem dX3_finish_87 : decode cX3_finish 87 = .ok (.aload_n 0, 1) := by decide +kernel
theorem dX3_finish_88 : decode cX3_finish 88 = .ok (.getfield 21, 3) := by decide +kernel
theorem dX3_finish_91 : decode cX3_finish 91 = .ok (.aload_n 2, 1) := by decide +kernel
theorem dX3_finish_92 : decode cX3_finish 92 = .ok (.getfield 76, 3) := by decide +kernel
theorem dX3_finish_95 : decode cX3_finish 95 = .ok (.invokevirtual 79, 3) := by decide +kernel
theorem dX3_finish_98 : decode cX3_finish 98 = .ok (.ifCond .eq 40, 3) := by decide +kernel
theorem dX3_finish_101 : decode cX3_finish 101 = .ok (.aload_n 0, 1) := by decide +kernel
theorem dX3_finish_102 : decode cX3_finish 102 = .ok (.aload_n 0, 1) := by decide +kernel
theorem dX3_finish_103 : decode cX3_finish 103 = .ok (.getfield 21, 3) := by decide +kernel
theorem dX3_finish_106 : decode cX3_finish 106 = .ok (.aload_n 2, 1) := by decide +kernel
theorem dX3_finish_107 : decode cX3_finish 107 = .ok (.getfield 76, 3) := by decide +kernel
theorem dX3_finish_110 : decode cX3_finish 110 = .ok (.invokevirtual 85, 3) := by decide +kernel
theorem dX3_finish_113 : decode cX3_finish 113 = .ok (.aload_n 2, 1) := by decide +kernel
theorem dX3_finish_114 : decode cX3_finish 114 = .ok (.getfield 89, 3) := by decide +kernel
theorem dX3_finish_117 : decode cX3_finish 117 = .ok (.invokevirtual 41, 3) := by decide +kernel
theorem dX3_finish_120 : decode cX3_finish 120 = .ok (.aload_n 2, 1) := by decide +kernel
theorem dX3_finish_121 : decode cX3_finish 121 = .ok (.aload_n 0, 1) := by decide +kernel
theorem dX3_finish_122 : decode cX3_finish 122 = .ok (.getfield 21, 3) := by decide +kernel
theorem dX3_finish_125 : decode cX3_finish 125 = .ok (.aload_n 2, 1) := by decide +kernel
theorem dX3_finish_126 : decode cX3_finish 126 = .ok (.getfield 76, 3) := by decide +kernel
theorem dX3_finish_129 : decode cX3_finish 129 = .ok (.invokevirtual 90, 3) := by decide +kernel
theorem dX3_finish_132 : decode cX3_finish 132 = .ok (.putfield 76, 3) := by decide +kernel
theorem dX3_finish_135 : decode cX3_finish 135 = .ok (.goto 35, 3) := by decide +kernel
theorem dX3_finish_138 : decode cX3_finish 138 = .ok (.aload_n 2, 1) := by decide +kernel
theorem dX3_finish_139 : decode cX3_finish 139 = .ok (.getfield 93, 3) := by decide +kernel
theorem dX3_finish_142 : decode cX3_finish 142 = .ok (.ifnull 23, 3) := by decide +kernel
theorem dX3_finish_145 : decode cX3_finish 145 = .ok (.aload_n 2, 1) := by decide +kernel
theorem dX3_finish_146 : decode cX3_finish 146 = .ok (.iconst 1, 1) := by decide +kernel
theorem dX3_finish_147 : decode cX3_finish 147 = .ok (.putfield 97, 3) := by decide +kernel
theorem dX3_finish_150 : decode cX3_finish 150 = .ok (.aload_n 0, 1) := by decide +kernel
theorem dX3_finish_151 : decode cX3_finish 151 = .ok (.aload_n 2, 1) := by decide +kernel
theorem dX3_finish_152 : decode cX3_finish 152 = .ok (.getfield 93, 3) := by decide +kernel
theorem dX3_finish_155 : decode cX3_finish 155 = .ok (.getfield 101, 3) := by decide +kernel
theorem dX3_finish_158 : decode cX3_finish 158 = .ok (.aload_n 2, 1) := by decide +kernel
theorem dX3_finish_159 : decode cX3_finish 159 = .ok (.invokevirtual 41, 3) := by decide +kernel
theorem dX3_finish_162 : decode cX3_finish 162 = .ok (.goto 8, 3) := by decide +kernel
theorem dX3_finish_165 : decode cX3_finish 165 = .ok (.aload_n 0, 1) := by decide +kernel
theorem dX3_finish_166 : decode cX3_finish 166 = .ok (.aload_n 2, 1) := by decide +kernel
theorem dX3_finish_167 : decode cX3_finish 167 = .ok (.invokevirtual 104, 3) := by decide +kernel
theorem dX3_finish_170 : decode cX3_finish 170 = .ok (.iinc 1 1, 3) := by decide +kernel
theorem dX3_finish_173 : decode cX3_finish 173 = .ok (.goto (-171), 3) := by decide +kernel
theorem dX3_finish_176 : decode cX3_finish 176 = .ok (.iconst (-1), 1) := by decide +kernel
theorem dX3_finish_177 : decode cX3_finish 177 = .ok (.ireturn, 1) := by decide +kernel
theorem dX3_evaluateNext_0 : decode cX3_evaluateNext 0 = .ok (.aload_n 0, 1) := by decide +kernel
theorem dX3_evaluateNext_1 : decode cX3_evaluateNext 1 = .ok (.iload_n 1, 1) := by decide +kernel
theorem dX3_evaluateNext_2 : decode cX3_evaluateNext 2 = .ok (.putfield 107, 3) := by decide +kernel
theorem dX3_evaluateNext_5 : decode cX3_evaluateNext 5 = .ok (.aload_n 0, 1) := by decide +kernel
theorem dX3_evaluateNext_6 : decode cX3_evaluateNext 6 = .ok (.aload_n 2, 1) := by decide +kernel
theorem dX3_evaluateNext_7 : decode cX3_evaluateNext 7 = .ok (.putfield 45, 3) := by decide +kernel
theorem dX3_evaluateNext_10 : decode cX3_evaluateNext 10 = .ok (.aload_n 0, 1) := by decide +kernel
theorem dX3_evaluateNext_11 : decode cX3_evaluateNext 11 = .ok (.iconst 0, 1) := by decide +kernel
theorem dX3_evaluateNext_12 : decode cX3_evaluateNext 12 = .ok (.putfield 63, 3) := by decide +kernel
theorem dX3_evaluateNext_15 : decode cX3_evaluateNext 15 = .ok (.return_, 1) := by decide +kernel
theorem dX3_beginTerm_0 : decode cX3_beginTerm 0 = .ok (.aload_n 0, 1) := by decide +kernel
theorem dX3_beginTerm_1 : decode cX3_beginTerm 1 = .ok (.getfield 21, 3) := by decide +kernel
theorem dX3_beginTerm_4 : decode cX3_beginTerm 4 = .ok (.aload_n 0, 1) := by decide +kernel
theorem dX3_beginTerm_5 : decode cX3_beginTerm 5 = .ok (.getfield 107, 3) := by decide +kernel
theorem dX3_beginTerm_8 : decode cX3_beginTerm 8 = .ok (.invokevirtual 110, 3) := by decide +kernel
theorem dX3_beginTerm_11 : decode cX3_beginTerm 11 = .ok (.ifCond .eq 40, 3) := by decide +kernel
theorem dX3_beginTerm_14 : decode cX3_beginTerm 14 = .ok (.aload_n 0, 1) := by decide +kernel
theorem dX3_beginTerm_15 : decode cX3_beginTerm 15 = .ok (.aload_n 0, 1) := by decide +kernel
theorem dX3_beginTerm_16 : decode cX3_beginTerm 16 = .ok (.getfield 45, 3) := by decide +kernel
theorem dX3_beginTerm_19 : decode cX3_beginTerm 19 = .ok (.ifnonnull 14, 3) := by decide +kernel
theorem dX3_beginTerm_22 : decode cX3_beginTerm 22 = .ok (.aload_n 0, 1) := by decide +kernel
theorem dX3_beginTerm_23 : decode cX3_beginTerm 23 = .ok (.aload_n 0, 1) := by decide +kernel
theorem dX3_beginTerm_24 : decode cX3_beginTerm 24 = .ok (.getfield 107, 3) := by decide +kernel
theorem dX3_beginTerm_27 : decode cX3_beginTerm 27 = .ok (.invokevirtual 113, 3) := by decide +kernel
theorem dX3_beginTerm_30 : decode cX3_beginTerm 30 = .ok (.goto 15, 3) := by decide +kernel
theorem dX3_beginTerm_33 : decode cX3_beginTerm 33 = .ok (.aload_n 0, 1) := by decide +kernel
theorem dX3_beginTerm_34 : decode cX3_beginTerm 34 = .ok (.aload_n 0, 1) := by decide +kernel
theorem dX3_beginTerm_35 : decode cX3_beginTerm 35 = .ok (.getfield 45, 3) := by decide +kernel
theorem dX3_beginTerm_38 : decode cX3_beginTerm 38 = .ok (.aload_n 0, 1) := by decide +kernel
theorem dX3_beginTerm_39 : decode cX3_beginTerm 39 = .ok (.getfield 107, 3) := by decide +kernel
theorem dX3_beginTerm_42 : decode cX3_beginTerm 42 = .ok (.invokevirtual 116, 3) := by decide +kernel
theorem dX3_beginTerm_45 : decode cX3_beginTerm 45 = .ok (.invokevirtual 120, 3) := by decide +kernel
theorem dX3_beginTerm_48 : decode cX3_beginTerm 48 = .ok (.goto 87, 3) := by decide +kernel
theorem dX3_beginTerm_51 : decode cX3_beginTerm 51 = .ok (.aload_n 0, 1) := by decide +kernel
theorem dX3_beginTerm_52 : decode cX3_beginTerm 52 = .ok (.getfield 21, 3) := by decide +kernel
theorem dX3_beginTerm_55 : decode cX3_beginTerm 55 = .ok (.aload_n 0, 1) := by decide +kernel
theorem dX3_beginTerm_56 : decode cX3_beginTerm 56 = .ok (.getfield 107, 3) := by decide +kernel
theorem dX3_beginTerm_59 : decode cX3_beginTerm 59 = .ok (.invokevirtual 79, 3) := by decide +kernel
theorem dX3_beginTerm_62 : decode cX3_beginTerm 62 = .ok (.ifCond .ne 14, 3) := by decide +kernel
theorem dX3_beginTerm_65 : decode cX3_beginTerm 65 = .ok (.aload_n 0, 1) := by decide +kernel
theorem dX3_beginTerm_66 : decode cX3_beginTerm 66 = .ok (.aload_n 0, 1) := by decide +kernel
theorem dX3_beginTerm_67 : decode cX3_beginTerm 67 = .ok (.getfield 107, 3) := by decide +kernel
theorem dX3_beginTerm_70 : decode cX3_beginTerm 70 = .ok (.invokevirtual 120, 3) := by decide +kernel
theorem dX3_beginTerm_73 : decode cX3_beginTerm 73 = .ok (.goto 62, 3) := by decide +kernel
theorem dX3_beginTerm_76 : decode cX3_beginTerm 76 = .ok (.aload_n 0, 1) := by decide +kernel
theorem dX3_beginTerm_77 : decode cX3_beginTerm 77 = .ok (.getfield 21, 3) := by decide +kernel
theorem dX3_beginTerm_80 : decode cX3_beginTerm 80 = .ok (.aload_n 0, 1) := by decide +kernel
theorem dX3_beginTerm_81 : decode cX3_beginTerm 81 = .ok (.getfield 107, 3) := by decide +kernel
theorem dX3_beginTerm_84 : decode cX3_beginTerm 84 = .ok (.invokevirtual 85, 3) := by decide +kernel
theorem dX3_beginTerm_87 : decode cX3_beginTerm 87 = .ok (.iconst 2, 1) := by decide +kernel
theorem dX3_beginTerm_88 : decode cX3_beginTerm 88 = .ok (.if_icmp .ne 21, 3) := by decide +kernel
theorem dX3_beginTerm_91 : decode cX3_beginTerm 91 = .ok (.aload_n 0, 1) := by decide +kernel
theorem dX3_beginTerm_92 : decode cX3_beginTerm 92 = .ok (.aload_n 0, 1) := by decide +kernel
theorem dX3_beginTerm_93 : decode cX3_beginTerm 93 = .ok (.getfield 21, 3) := by decide +kernel
theorem dX3_beginTerm_96 : decode cX3_beginTerm 96 = .ok (.aload_n 0, 1) := by decide +kernel
theorem dX3_beginTerm_97 : decode cX3_beginTerm 97 = .ok (.getfield 107, 3) := by decide +kernel
theorem dX3_beginTerm_100 : decode cX3_beginTerm 100 = .ok (.invokevirtual 123, 3) := by decide +kernel
theorem dX3_beginTerm_103 : decode cX3_beginTerm 103 = .ok (.invokevirtual 120, 3) := by decide +kernel
theorem dX3_beginTerm_106 : decode cX3_beginTerm 106 = .ok (.goto 29, 3) := by decide +kernel
theorem dX3_beginTerm_109 : decode cX3_beginTerm 109 = .ok (.aload_n 0, 1) := by decide +kernel
theorem dX3_beginTerm_110 : decode cX3_beginTerm 110 = .ok (.aload_n 0, 1) := by decide +kernel
theorem dX3_beginTerm_111 : decode cX3_beginTerm 111 = .ok (.getfield 21, 3) := by decide +kernel
theorem dX3_beginTerm_114 : decode cX3_beginTerm 114 = .ok (.aload_n 0, 1) := by decide +kernel
theorem dX3_beginTerm_115 : decode cX3_beginTerm 115 = .ok (.getfield 107, 3) := by decide +kernel
theorem dX3_beginTerm_118 : decode cX3_beginTerm 118 = .ok (.invokevirtual 85, 3) := by decide +kernel
theorem dX3_beginTerm_121 : decode cX3_beginTerm 121 = .ok (.aload_n 0, 1) := by decide +kernel
theorem dX3_beginTerm_122 : decode cX3_beginTerm 122 = .ok (.getfield 21, 3) := by decide +kernel
theorem dX3_beginTerm_125 : decode cX3_beginTerm 125 = .ok (.aload_n 0, 1) := by decide +kernel
theorem dX3_beginTerm_126 : decode cX3_beginTerm 126 = .ok (.getfield 107, 3) := by decide +kernel
theorem dX3_beginTerm_129 : decode cX3_beginTerm 129 = .ok (.invokevirtual 90, 3) := by decide +kernel
theorem dX3_beginTerm_132 : decode cX3_beginTerm 132 = .ok (.invokevirtual 54, 3) := by decide +kernel
theorem dX3_beginTerm_135 : decode cX3_beginTerm 135 = .ok (.return_, 1) := by decide +kernel
theorem dX3_answer_0 : decode cX3_answer 0 = .ok (.aload_n 0, 1) := by decide +kernel
theorem dX3_answer_1 : decode cX3_answer 1 = .ok (.iload_n 1, 1) := by decide +kernel
theorem dX3_answer_2 : decode cX3_answer 2 = .ok (.putfield 69, 3) := by decide +kernel
theorem dX3_answer_5 : decode cX3_answer 5 = .ok (.aload_n 0, 1) := by decide +kernel
theorem dX3_answer_6 : decode cX3_answer 6 = .ok (.iconst 1, 1) := by decide +kernel
theorem dX3_answer_7 : decode cX3_answer 7 = .ok (.putfield 63, 3) := by decide +kernel
theorem dX3_answer_10 : decode cX3_answer 10 = .ok (.return_, 1) := by decide +kernel
theorem dX3_argumentOf_0 : decode cX3_argumentOf 0 = .ok (.aload_n 1, 1) := by decide +kernel
theorem dX3_argumentOf_1 : decode cX3_argumentOf 1 = .ok (.getfield 93, 3) := by decide +kernel
theorem dX3_argumentOf_4 : decode cX3_argumentOf 4 = .ok (.ifnonnull 7, 3) := by decide +kernel
theorem dX3_argumentOf_7 : decode cX3_argumentOf 7 = .ok (.iconst 0, 1) := by decide +kernel
theorem dX3_argumentOf_8 : decode cX3_argumentOf 8 = .ok (.goto 10, 3) := by decide +kernel
theorem dX3_argumentOf_11 : decode cX3_argumentOf 11 = .ok (.aload_n 1, 1) := by decide +kernel
theorem dX3_argumentOf_12 : decode cX3_argumentOf 12 = .ok (.getfield 93, 3) := by decide +kernel
theorem dX3_argumentOf_15 : decode cX3_argumentOf 15 = .ok (.getfield 126, 3) := by decide +kernel
theorem dX3_argumentOf_18 : decode cX3_argumentOf 18 = .ok (.istore_n 3, 1) := by decide +kernel
theorem dX3_argumentOf_19 : decode cX3_argumentOf 19 = .ok (.iconst 0, 1) := by decide +kernel
theorem dX3_argumentOf_20 : decode cX3_argumentOf 20 = .ok (.istore 4, 2) := by decide +kernel
theorem dX3_argumentOf_22 : decode cX3_argumentOf 22 = .ok (.iload 4, 2) := by decide +kernel
theorem dX3_argumentOf_24 : decode cX3_argumentOf 24 = .ok (.bipush 6, 2) := by decide +kernel
theorem dX3_argumentOf_26 : decode cX3_argumentOf 26 = .ok (.if_icmp .ge 38, 3) := by decide +kernel
theorem dX3_argumentOf_29 : decode cX3_argumentOf 29 = .ok (.aload_n 0, 1) := by decide +kernel
theorem dX3_argumentOf_30 : decode cX3_argumentOf 30 = .ok (.getfield 21, 3) := by decide +kernel
theorem dX3_argumentOf_33 : decode cX3_argumentOf 33 = .ok (.iload_n 3, 1) := by decide +kernel
theorem dX3_argumentOf_34 : decode cX3_argumentOf 34 = .ok (.invokevirtual 85, 3) := by decide +kernel
theorem dX3_argumentOf_37 : decode cX3_argumentOf 37 = .ok (.iload_n 2, 1) := by decide +kernel
theorem dX3_argumentOf_38 : decode cX3_argumentOf 38 = .ok (.if_icmp .ne 11, 3) := by decide +kernel
theorem dX3_argumentOf_41 : decode cX3_argumentOf 41 = .ok (.aload_n 1, 1) := by decide +kernel
theorem dX3_argumentOf_42 : decode cX3_argumentOf 42 = .ok (.getfield 129, 3) := by decide +kernel
theorem dX3_argumentOf_45 : decode cX3_argumentOf 45 = .ok (.iload 4, 2) := by decide +kernel
theorem dX3_argumentOf_47 : decode cX3_argumentOf 47 = .ok (.iaload, 1) := by decide +kernel
theorem dX3_argumentOf_48 : decode cX3_argumentOf 48 = .ok (.ireturn, 1) := by decide +kernel
theorem dX3_argumentOf_49 : decode cX3_argumentOf 49 = .ok (.aload_n 0, 1) := by decide +kernel
theorem dX3_argumentOf_50 : decode cX3_argumentOf 50 = .ok (.getfield 21, 3) := by decide +kernel
theorem dX3_argumentOf_53 : decode cX3_argumentOf 53 = .ok (.iload_n 3, 1) := by decide +kernel
theorem dX3_argumentOf_54 : decode cX3_argumentOf 54 = .ok (.invokevirtual 90, 3) := by decide +kernel
theorem dX3_argumentOf_57 : decode cX3_argumentOf 57 = .ok (.istore_n 3, 1) := by decide +kernel
theorem dX3_argumentOf_58 : decode cX3_argumentOf 58 = .ok (.iinc 4 1, 3) := by decide +kernel
theorem dX3_argumentOf_61 : decode cX3_argumentOf 61 = .ok (.goto (-39), 3) := by decide +kernel
theorem dX3_argumentOf_64 : decode cX3_argumentOf 64 = .ok (.iconst 0, 1) := by decide +kernel
theorem dX3_argumentOf_65 : decode cX3_argumentOf 65 = .ok (.ireturn, 1) := by decide +kernel
theorem dX3_boundValueOf_0 : decode cX3_boundValueOf 0 = .ok (.aload_n 0, 1) := by decide +kernel
theorem dX3_boundValueOf_1 : decode cX3_boundValueOf 1 = .ok (.getfield 38, 3) := by decide +kernel
theorem dX3_boundValueOf_4 : decode cX3_boundValueOf 4 = .ok (.istore_n 2, 1) := by decide +kernel
theorem dX3_boundValueOf_5 : decode cX3_boundValueOf 5 = .ok (.iconst 0, 1) := by decide +kernel
theorem dX3_boundValueOf_6 : decode cX3_boundValueOf 6 = .ok (.istore_n 3, 1) := by decide +kernel
theorem dX3_boundValueOf_7 : decode cX3_boundValueOf 7 = .ok (.iload_n 3, 1) := by decide +kernel
theorem dX3_boundValueOf_8 : decode cX3_boundValueOf 8 = .ok (.sipush 1000, 3) := by decide +kernel
theorem dX3_boundValueOf_11 : decode cX3_boundValueOf 11 = .ok (.if_icmp .ge 71, 3) := by decide +kernel
theorem dX3_boundValueOf_14 : decode cX3_boundValueOf 14 = .ok (.aload_n 0, 1) := by decide +kernel
theorem dX3_boundValueOf_15 : decode cX3_boundValueOf 15 = .ok (.getfield 21, 3) := by decide +kernel
theorem dX3_boundValueOf_18 : decode cX3_boundValueOf 18 = .ok (.iload_n 2, 1) := by decide +kernel
theorem dX3_boundValueOf_19 : decode cX3_boundValueOf 19 = .ok (.invokevirtual 79, 3) := by decide +kernel
theorem dX3_boundValueOf_22 : decode cX3_boundValueOf 22 = .ok (.ifCond .eq 60, 3) := by decide +kernel
theorem dX3_boundValueOf_25 : decode cX3_boundValueOf 25 = .ok (.aload_n 0, 1) := by decide +kernel
theorem dX3_boundValueOf_26 : decode cX3_boundValueOf 26 = .ok (.getfield 21, 3) := by decide +kernel
theorem dX3_boundValueOf_29 : decode cX3_boundValueOf 29 = .ok (.aload_n 0, 1) := by decide +kernel
theorem dX3_boundValueOf_30 : decode cX3_boundValueOf 30 = .ok (.getfield 21, 3) := by decide +kernel
theorem dX3_boundValueOf_33 : decode cX3_boundValueOf 33 = .ok (.iload_n 2, 1) := by decide +kernel
theorem dX3_boundValueOf_34 : decode cX3_boundValueOf 34 = .ok (.invokevirtual 85, 3) := by decide +kernel
theorem dX3_boundValueOf_37 : decode cX3_boundValueOf 37 = .ok (.invokevirtual 85, 3) := by decide +kernel
theorem dX3_boundValueOf_40 : decode cX3_boundValueOf 40 = .ok (.iload_n 1, 1) := by decide +kernel
theorem dX3_boundValueOf_41 : decode cX3_boundValueOf 41 = .ok (.if_icmp .ne 26, 3) := by decide +kernel
theorem dX3_boundValueOf_44 : decode cX3_boundValueOf 44 = .ok (.aload_n 0, 1) := by decide +kernel
theorem dX3_boundValueOf_45 : decode cX3_boundValueOf 45 = .ok (.getfield 21, 3) := by decide +kernel
theorem dX3_boundValueOf_48 : decode cX3_boundValueOf 48 = .ok (.aload_n 0, 1) := by decide +kernel
theorem dX3_boundValueOf_49 : decode cX3_boundValueOf 49 = .ok (.getfield 21, 3) := by decide +kernel
theorem dX3_boundValueOf_52 : decode cX3_boundValueOf 52 = .ok (.aload_n 0, 1) := by decide +kernel
theorem dX3_boundValueOf_53 : decode cX3_boundValueOf 53 = .ok (.getfield 21, 3) := by decide +kernel
theorem dX3_boundValueOf_56 : decode cX3_boundValueOf 56 = .ok (.iload_n 2, 1) := by decide +kernel
theorem dX3_boundValueOf_57 : decode cX3_boundValueOf 57 = .ok (.invokevirtual 85, 3) := by decide +kernel
theorem dX3_boundValueOf_60 : decode cX3_boundValueOf 60 = .ok (.invokevirtual 90, 3) := by decide +kernel
theorem dX3_boundValueOf_63 : decode cX3_boundValueOf 63 = .ok (.invokevirtual 85, 3) := by decide +kernel
theorem dX3_boundValueOf_66 : decode cX3_boundValueOf 66 = .ok (.ireturn, 1) := by decide +kernel
theorem dX3_boundValueOf_67 : decode cX3_boundValueOf 67 = .ok (.aload_n 0, 1) := by decide +kernel
theorem dX3_boundValueOf_68 : decode cX3_boundValueOf 68 = .ok (.getfield 21, 3) := by decide +kernel
theorem dX3_boundValueOf_71 : decode cX3_boundValueOf 71 = .ok (.iload_n 2, 1) := by decide +kernel
theorem dX3_boundValueOf_72 : decode cX3_boundValueOf 72 = .ok (.invokevirtual 90, 3) := by decide +kernel
theorem dX3_boundValueOf_75 : decode cX3_boundValueOf 75 = .ok (.istore_n 2, 1) := by decide +kernel
theorem dX3_boundValueOf_76 : decode cX3_boundValueOf 76 = .ok (.iinc 3 1, 3) := by decide +kernel
theorem dX3_boundValueOf_79 : decode cX3_boundValueOf 79 = .ok (.goto (-72), 3) := by decide +kernel
theorem dX3_boundValueOf_82 : decode cX3_boundValueOf 82 = .ok (.iconst 0, 1) := by decide +kernel
theorem dX3_boundValueOf_83 : decode cX3_boundValueOf 83 = .ok (.ireturn, 1) := by decide +kernel
theorem dX3_openCall_0 : decode cX3_openCall 0 = .ok (.aload_n 0, 1) := by decide +kernel
theorem dX3_openCall_1 : decode cX3_openCall 1 = .ok (.getfield 35, 3) := by decide +kernel
theorem dX3_openCall_4 : decode cX3_openCall 4 = .ok (.sipush 300, 3) := by decide +kernel
theorem dX3_openCall_7 : decode cX3_openCall 7 = .ok (.if_icmp .lt 9, 3) := by decide +kernel
theorem dX3_openCall_10 : decode cX3_openCall 10 = .ok (.aload_n 0, 1) := by decide +kernel
theorem dX3_openCall_11 : decode cX3_openCall 11 = .ok (.iconst 2, 1) := by decide +kernel
theorem dX3_openCall_12 : decode cX3_openCall 12 = .ok (.putfield 32, 3) := by decide +kernel
theorem dX3_openCall_15 : decode cX3_openCall 15 = .ok (.return_, 1) := by decide +kernel
theorem dX3_openCall_16 : decode cX3_openCall 16 = .ok (.aload_n 0, 1) := by decide +kernel
theorem dX3_openCall_17 : decode cX3_openCall 17 = .ok (.getfield 29, 3) := by decide +kernel
theorem dX3_openCall_20 : decode cX3_openCall 20 = .ok (.aload_n 0, 1) := by decide +kernel
theorem dX3_openCall_21 : decode cX3_openCall 21 = .ok (.getfield 17, 3) := by decide +kernel
theorem dX3_openCall_24 : decode cX3_openCall 24 = .ok (.if_icmp .lt 9, 3) := by decide +kernel
theorem dX3_openCall_27 : decode cX3_openCall 27 = .ok (.aload_n 0, 1) := by decide +kernel
theorem dX3_openCall_28 : decode cX3_openCall 28 = .ok (.iconst 1, 1) := by decide +kernel
theorem dX3_openCall_29 : decode cX3_openCall 29 = .ok (.putfield 32, 3) := by decide +kernel
theorem dX3_openCall_32 : decode cX3_openCall 32 = .ok (.return_, 1) := by decide +kernel
theorem dX3_openCall_33 : decode cX3_openCall 33 = .ok (.aload_n 0, 1) := by decide +kernel
theorem dX3_openCall_34 : decode cX3_openCall 34 = .ok (.dup, 1) := by decide +kernel
theorem dX3_openCall_35 : decode cX3_openCall 35 = .ok (.getfield 29, 3) := by decide +kernel
theorem dX3_openCall_38 : decode cX3_openCall 38 = .ok (.iconst 1, 1) := by decide +kernel
theorem dX3_openCall_39 : decode cX3_openCall 39 = .ok (.iadd, 1) := by decide +kernel
theorem dX3_openCall_40 : decode cX3_openCall 40 = .ok (.putfield 29, 3) := by decide +kernel
theorem dX3_openCall_43 : decode cX3_openCall 43 = .ok (.aload_n 0, 1) := by decide +kernel
theorem dX3_openCall_44 : decode cX3_openCall 44 = .ok (.getfield 13, 3) := by decide +kernel
theorem dX3_openCall_47 : decode cX3_openCall 47 = .ok (.aload_n 0, 1) := by decide +kernel
theorem dX3_openCall_48 : decode cX3_openCall 48 = .ok (.getfield 35, 3) := by decide +kernel
theorem dX3_openCall_51 : decode cX3_openCall 51 = .ok (.aaload, 1) := by decide +kernel
theorem dX3_openCall_52 : decode cX3_openCall 52 = .ok (.ifnonnull 19, 3) := by decide +kernel
theorem dX3_openCall_55 : decode cX3_openCall 55 = .ok (.aload_n 0, 1) := by decide +kernel
theorem dX3_openCall_56 : decode cX3_openCall 56 = .ok (.getfield 13, 3) := by decide +kernel
theorem dX3_openCall_59 : decode cX3_openCall 59 = .ok (.aload_n 0, 1) := by decide +kernel
theorem dX3_openCall_60 : decode cX3_openCall 60 = .ok (.getfield 35, 3) := by decide +kernel
theorem dX3_openCall_63 : decode cX3_openCall 63 = .ok (.new 11, 3) := by decide +kernel
theorem dX3_openCall_66 : decode cX3_openCall 66 = .ok (.dup, 1) := by decide +kernel
theorem dX3_openCall_67 : decode cX3_openCall 67 = .ok (.invokespecial 133, 3) := by decide +kernel
theorem dX3_openCall_70 : decode cX3_openCall 70 = .ok (.aastore, 1) := by decide +kernel
theorem dX3_openCall_71 : decode cX3_openCall 71 = .ok (.aload_n 0, 1) := by decide +kernel
theorem dX3_openCall_72 : decode cX3_openCall 72 = .ok (.getfield 13, 3) := by decide +kernel
theorem dX3_openCall_75 : decode cX3_openCall 75 = .ok (.aload_n 0, 1) := by decide +kernel
theorem dX3_openCall_76 : decode cX3_openCall 76 = .ok (.getfield 35, 3) := by decide +kernel
theorem dX3_openCall_79 : decode cX3_openCall 79 = .ok (.aaload, 1) := by decide +kernel
theorem dX3_openCall_80 : decode cX3_openCall 80 = .ok (.astore_n 3, 1) := by decide +kernel
theorem dX3_openCall_81 : decode cX3_openCall 81 = .ok (.aload_n 0, 1) := by decide +kernel
theorem dX3_openCall_82 : decode cX3_openCall 82 = .ok (.dup, 1) := by decide +kernel
theorem dX3_openCall_83 : decode cX3_openCall 83 = .ok (.getfield 35, 3) := by decide +kernel
theorem dX3_openCall_86 : decode cX3_openCall 86 = .ok (.iconst 1, 1) := by decide +kernel
theorem dX3_openCall_87 : decode cX3_openCall 87 = .ok (.iadd, 1) := by decide +kernel
theorem dX3_openCall_88 : decode cX3_openCall 88 = .ok (.putfield 35, 3) := by decide +kernel
theorem dX3_openCall_91 : decode cX3_openCall 91 = .ok (.aload_n 3, 1) := by decide +kernel
theorem dX3_openCall_92 : decode cX3_openCall 92 = .ok (.iload_n 1, 1) := by decide +kernel
theorem dX3_openCall_93 : decode cX3_openCall 93 = .ok (.aload_n 0, 1) := by decide +kernel
theorem dX3_openCall_94 : decode cX3_openCall 94 = .ok (.getfield 25, 3) := by decide +kernel
theorem dX3_openCall_97 : decode cX3_openCall 97 = .ok (.iload_n 1, 1) := by decide +kernel
theorem dX3_openCall_98 : decode cX3_openCall 98 = .ok (.invokevirtual 134, 3) := by decide +kernel
theorem dX3_openCall_101 : decode cX3_openCall 101 = .ok (.iload_n 2, 1) := by decide +kernel
theorem dX3_openCall_102 : decode cX3_openCall 102 = .ok (.aload_n 0, 1) := by decide +kernel
theorem dX3_openCall_103 : decode cX3_openCall 103 = .ok (.getfield 45, 3) := by decide +kernel
theorem dX3_openCall_106 : decode cX3_openCall 106 = .ok (.invokevirtual 140, 3) := by decide +kernel
theorem dX3_openCall_109 : decode cX3_openCall 109 = .ok (.aload_n 0, 1) := by decide +kernel
theorem dX3_openCall_110 : decode cX3_openCall 110 = .ok (.iconst 2, 1) := by decide +kernel
theorem dX3_openCall_111 : decode cX3_openCall 111 = .ok (.putfield 63, 3) := by decide +kernel
theorem dX3_openCall_114 : decode cX3_openCall 114 = .ok (.return_, 1) := by decide +kernel
theorem dX3_handOverValue_0 : decode cX3_handOverValue 0 = .ok (.aload_n 1, 1) := by decide +kernel
theorem dX3_handOverValue_1 : decode cX3_handOverValue 1 = .ok (.getfield 97, 3) := by decide +kernel
theorem dX3_handOverValue_4 : decode cX3_handOverValue 4 = .ok (.ifCond .eq 16, 3) := by decide +kernel
theorem dX3_handOverValue_7 : decode cX3_handOverValue 7 = .ok (.aload_n 0, 1) := by decide +kernel
theorem dX3_handOverValue_8 : decode cX3_handOverValue 8 = .ok (.dup, 1) := by decide +kernel
theorem dX3_handOverValue_9 : decode cX3_handOverValue 9 = .ok (.getfield 35, 3) := by decide +kernel
theorem dX3_handOverValue_12 : decode cX3_handOverValue 12 = .ok (.iconst 1, 1) := by decide +kernel
theorem dX3_handOverValue_13 : decode cX3_handOverValue 13 = .ok (.isub, 1) := by decide +kernel
theorem dX3_handOverValue_14 : decode cX3_handOverValue 14 = .ok (.putfield 35, 3) := by decide +kernel
theorem dX3_handOverValue_17 : decode cX3_handOverValue 17 = .ok (.goto 71, 3) := by decide +kernel
theorem dX3_handOverValue_20 : decode cX3_handOverValue 20 = .ok (.aload_n 1, 1) := by decide +kernel
theorem dX3_handOverValue_21 : decode cX3_handOverValue 21 = .ok (.getfield 144, 3) := by decide +kernel
theorem dX3_handOverValue_24 : decode cX3_handOverValue 24 = .ok (.iconst 3, 1) := by decide +kernel
theorem dX3_handOverValue_25 : decode cX3_handOverValue 25 = .ok (.if_icmp .ne 50, 3) := by decide +kernel
theorem dX3_handOverValue_28 : decode cX3_handOverValue 28 = .ok (.aload_n 1, 1) := by decide +kernel
theorem dX3_handOverValue_29 : decode cX3_handOverValue 29 = .ok (.iconst 1, 1) := by decide +kernel
theorem dX3_handOverValue_30 : decode cX3_handOverValue 30 = .ok (.putfield 97, 3) := by decide +kernel
theorem dX3_handOverValue_33 : decode cX3_handOverValue 33 = .ok (.aload_n 1, 1) := by decide +kernel
theorem dX3_handOverValue_34 : decode cX3_handOverValue 34 = .ok (.getfield 76, 3) := by decide +kernel
theorem dX3_handOverValue_37 : decode cX3_handOverValue 37 = .ok (.istore_n 2, 1) := by decide +kernel
theorem dX3_handOverValue_38 : decode cX3_handOverValue 38 = .ok (.aload_n 0, 1) := by decide +kernel
theorem dX3_handOverValue_39 : decode cX3_handOverValue 39 = .ok (.aload_n 0, 1) := by decide +kernel
theorem dX3_handOverValue_40 : decode cX3_handOverValue 40 = .ok (.getfield 69, 3) := by decide +kernel
theorem dX3_handOverValue_43 : decode cX3_handOverValue 43 = .ok (.ifCond .eq 14, 3) := by decide +kernel
theorem dX3_handOverValue_46 : decode cX3_handOverValue 46 = .ok (.aload_n 0, 1) := by decide +kernel
theorem dX3_handOverValue_47 : decode cX3_handOverValue 47 = .ok (.getfield 21, 3) := by decide +kernel
theorem dX3_handOverValue_50 : decode cX3_handOverValue 50 = .ok (.iload_n 2, 1) := by decide +kernel
theorem dX3_handOverValue_51 : decode cX3_handOverValue 51 = .ok (.invokevirtual 85, 3) := by decide +kernel
theorem dX3_handOverValue_54 : decode cX3_handOverValue 54 = .ok (.goto 11, 3) := by decide +kernel
theorem dX3_handOverValue_57 : decode cX3_handOverValue 57 = .ok (.aload_n 0, 1) := by decide +kernel
theorem dX3_handOverValue_58 : decode cX3_handOverValue 58 = .ok (.getfield 21, 3) := by decide +kernel
theorem dX3_handOverValue_61 : decode cX3_handOverValue 61 = .ok (.iload_n 2, 1) := by decide +kernel
theorem dX3_handOverValue_62 : decode cX3_handOverValue 62 = .ok (.invokevirtual 123, 3) := by decide +kernel
theorem dX3_handOverValue_65 : decode cX3_handOverValue 65 = .ok (.aload_n 1, 1) := by decide +kernel
theorem dX3_handOverValue_66 : decode cX3_handOverValue 66 = .ok (.getfield 89, 3) := by decide +kernel
theorem dX3_handOverValue_69 : decode cX3_handOverValue 69 = .ok (.invokevirtual 41, 3) := by decide +kernel
theorem dX3_handOverValue_72 : decode cX3_handOverValue 72 = .ok (.goto 16, 3) := by decide +kernel
theorem dX3_handOverValue_75 : decode cX3_handOverValue 75 = .ok (.aload_n 1, 1) := by decide +kernel
theorem dX3_handOverValue_76 : decode cX3_handOverValue 76 = .ok (.aload_n 0, 1) := by decide +kernel
theorem dX3_handOverValue_77 : decode cX3_handOverValue 77 = .ok (.getfield 69, 3) := by decide +kernel
theorem dX3_handOverValue_80 : decode cX3_handOverValue 80 = .ok (.invokevirtual 58, 3) := by decide +kernel
theorem dX3_handOverValue_83 : decode cX3_handOverValue 83 = .ok (.aload_n 0, 1) := by decide +kernel
theorem dX3_handOverValue_84 : decode cX3_handOverValue 84 = .ok (.iconst 2, 1) := by decide +kernel
theorem dX3_handOverValue_85 : decode cX3_handOverValue 85 = .ok (.putfield 63, 3) := by decide +kernel
theorem dX3_handOverValue_88 : decode cX3_handOverValue 88 = .ok (.return_, 1) := by decide +kernel
theorem dX3_applyBase_0 : decode cX3_applyBase 0 = .ok (.aload_n 1, 1) := by decide +kernel
theorem dX3_applyBase_1 : decode cX3_applyBase 1 = .ok (.getfield 129, 3) := by decide +kernel
theorem dX3_applyBase_4 : decode cX3_applyBase 4 = .ok (.iconst 0, 1) := by decide +kernel
theorem dX3_applyBase_5 : decode cX3_applyBase 5 = .ok (.iaload, 1) := by decide +kernel
theorem dX3_applyBase_6 : decode cX3_applyBase 6 = .ok (.istore_n 2, 1) := by decide +kernel
theorem dX3_applyBase_7 : decode cX3_applyBase 7 = .ok (.aload_n 1, 1) := by decide +kernel
theorem dX3_applyBase_8 : decode cX3_applyBase 8 = .ok (.getfield 129, 3) := by decide +kernel
theorem dX3_applyBase_11 : decode cX3_applyBase 11 = .ok (.iconst 1, 1) := by decide +kernel
theorem dX3_applyBase_12 : decode cX3_applyBase 12 = .ok (.iaload, 1) := by decide +kernel
theorem dX3_applyBase_13 : decode cX3_applyBase 13 = .ok (.istore_n 3, 1) := by decide +kernel
theorem dX3_applyBase_14 : decode cX3_applyBase 14 = .ok (.aload_n 0, 1) := by decide +kernel
theorem dX3_applyBase_15 : decode cX3_applyBase 15 = .ok (.dup, 1) := by decide +kernel
theorem dX3_applyBase_16 : decode cX3_applyBase 16 = .ok (.getfield 35, 3) := by decide +kernel
theorem dX3_applyBase_19 : decode cX3_applyBase 19 = .ok (.iconst 1, 1) := by decide +kernel
theorem dX3_applyBase_20 : decode cX3_applyBase 20 = .ok (.isub, 1) := by decide +kernel
theorem dX3_applyBase_21 : decode cX3_applyBase 21 = .ok (.putfield 35, 3) := by decide +kernel
theorem dX3_applyBase_24 : decode cX3_applyBase 24 = .ok (.aload_n 1, 1) := by decide +kernel
theorem dX3_applyBase_25 : decode cX3_applyBase 25 = .ok (.getfield 144, 3) := by decide +kernel
theorem dX3_applyBase_28 : decode cX3_applyBase 28 = .ok (.tableswitch 366 4 15 #[64, 84, 100, 123, 189, 224, 259, 277, 292, 307, 325, 343], 64) := by decide +kernel
theorem dX3_applyBase_92 : decode cX3_applyBase 92 = .ok (.aload_n 0, 1) := by decide +kernel
theorem dX3_applyBase_93 : decode cX3_applyBase 93 = .ok (.iload_n 2, 1) := by decide +kernel
theorem dX3_applyBase_94 : decode cX3_applyBase 94 = .ok (.iload_n 3, 1) := by decide +kernel
theorem dX3_applyBase_95 : decode cX3_applyBase 95 = .ok (.if_icmp .ne 7, 3) := by decide +kernel
theorem dX3_applyBase_98 : decode cX3_applyBase 98 = .ok (.iconst 1, 1) := by decide +kernel
theorem dX3_applyBase_99 : decode cX3_applyBase 99 = .ok (.goto 4, 3) := by decide +kernel
theorem dX3_applyBase_102 : decode cX3_applyBase 102 = .ok (.iconst 0, 1) := by decide +kernel
theorem dX3_applyBase_103 : decode cX3_applyBase 103 = .ok (.invokestatic 145, 3) := by decide +kernel
theorem dX3_applyBase_106 : decode cX3_applyBase 106 = .ok (.invokevirtual 120, 3) := by decide +kernel
theorem dX3_applyBase_109 : decode cX3_applyBase 109 = .ok (.goto 301, 3) := by decide +kernel
theorem dX3_applyBase_112 : decode cX3_applyBase 112 = .ok (.aload_n 0, 1) := by decide +kernel
theorem dX3_applyBase_113 : decode cX3_applyBase 113 = .ok (.aload_n 0, 1) := by decide +kernel
theorem dX3_applyBase_114 : decode cX3_applyBase 114 = .ok (.getfield 21, 3) := by decide +kernel
theorem dX3_applyBase_117 : decode cX3_applyBase 117 = .ok (.iload_n 2, 1) := by decide +kernel
theorem dX3_applyBase_118 : decode cX3_applyBase 118 = .ok (.iload_n 3, 1) := by decide +kernel
theorem dX3_applyBase_119 : decode cX3_applyBase 119 = .ok (.invokevirtual 149, 3) := by decide +kernel
theorem dX3_applyBase_122 : decode cX3_applyBase 122 = .ok (.invokevirtual 120, 3) := by decide +kernel
theorem dX3_applyBase_125 : decode cX3_applyBase 125 = .ok (.goto 285, 3) := by decide +kernel
theorem dX3_applyBase_128 : decode cX3_applyBase 128 = .ok (.aload_n 0, 1) := by decide +kernel
theorem dX3_applyBase_129 : decode cX3_applyBase 129 = .ok (.iload_n 2, 1) := by decide +kernel
theorem dX3_applyBase_130 : decode cX3_applyBase 130 = .ok (.ifCond .eq 7, 3) := by decide +kernel
theorem dX3_applyBase_133 : decode cX3_applyBase 133 = .ok (.iload_n 3, 1) := by decide +kernel
theorem dX3_applyBase_134 : decode cX3_applyBase 134 = .ok (.ifCond .eq 7, 3) := by decide +kernel
theorem dX3_applyBase_137 : decode cX3_applyBase 137 = .ok (.iconst 1, 1) := by decide +kernel
theorem dX3_applyBase_138 : decode cX3_applyBase 138 = .ok (.goto 4, 3) := by decide +kernel
theorem dX3_applyBase_141 : decode cX3_applyBase 141 = .ok (.iconst 0, 1) := by decide +kernel
theorem dX3_applyBase_142 : decode cX3_applyBase 142 = .ok (.invokestatic 145, 3) := by decide +kernel
theorem dX3_applyBase_145 : decode cX3_applyBase 145 = .ok (.invokevirtual 120, 3) := by decide +kernel
theorem dX3_applyBase_148 : decode cX3_applyBase 148 = .ok (.goto 262, 3) := by decide +kernel
theorem dX3_applyBase_151 : decode cX3_applyBase 151 = .ok (.aload_n 0, 1) := by decide +kernel
theorem dX3_applyBase_152 : decode cX3_applyBase 152 = .ok (.getfield 21, 3) := by decide +kernel
theorem dX3_applyBase_155 : decode cX3_applyBase 155 = .ok (.iload_n 2, 1) := by decide +kernel
theorem dX3_applyBase_156 : decode cX3_applyBase 156 = .ok (.invokevirtual 153, 3) := by decide +kernel
theorem dX3_applyBase_159 : decode cX3_applyBase 159 = .ok (.aload_n 0, 1) := by decide +kernel
theorem dX3_applyBase_160 : decode cX3_applyBase 160 = .ok (.getfield 21, 3) := by decide +kernel
theorem dX3_applyBase_163 : decode cX3_applyBase 163 = .ok (.iload_n 3, 1) := by decide +kernel
theorem dX3_applyBase_164 : decode cX3_applyBase 164 = .ok (.invokevirtual 153, 3) := by decide +kernel
theorem dX3_applyBase_167 : decode cX3_applyBase 167 = .ok (.ladd, 1) := by decide +kernel
theorem dX3_applyBase_168 : decode cX3_applyBase 168 = .ok (.lstore 4, 2) := by decide +kernel
theorem dX3_applyBase_170 : decode cX3_applyBase 170 = .ok (.aload_n 0, 1) := by decide +kernel
theorem dX3_applyBase_171 : decode cX3_applyBase 171 = .ok (.lload 4, 2) := by decide +kernel
theorem dX3_applyBase_173 : decode cX3_applyBase 173 = .ok (.ldc2_w 157, 3) := by decide +kernel
theorem dX3_applyBase_176 : decode cX3_applyBase 176 = .ok (.lcmp, 1) := by decide +kernel
theorem dX3_applyBase_177 : decode cX3_applyBase 177 = .ok (.ifCond .le 7, 3) := by decide +kernel
theorem dX3_applyBase_180 : decode cX3_applyBase 180 = .ok (.iconst 3, 1) := by decide +kernel
theorem dX3_applyBase_181 : decode cX3_applyBase 181 = .ok (.goto 4, 3) := by decide +kernel
theorem dX3_applyBase_184 : decode cX3_applyBase 184 = .ok (.iconst 0, 1) := by decide +kernel
theorem dX3_applyBase_185 : decode cX3_applyBase 185 = .ok (.putfield 32, 3) := by decide +kernel
theorem dX3_applyBase_188 : decode cX3_applyBase 188 = .ok (.aload_n 0, 1) := by decide +kernel
theorem dX3_applyBase_189 : decode cX3_applyBase 189 = .ok (.lload 4, 2) := by decide +kernel
theorem dX3_applyBase_191 : decode cX3_applyBase 191 = .ok (.ldc2_w 157, 3) := by decide +kernel
theorem dX3_applyBase_194 : decode cX3_applyBase 194 = .ok (.lcmp, 1) := by decide +kernel
theorem dX3_applyBase_195 : decode cX3_applyBase 195 = .ok (.ifCond .le 7, 3) := by decide +kernel
theorem dX3_applyBase_198 : decode cX3_applyBase 198 = .ok (.iconst 0, 1) := by decide +kernel
theorem dX3_applyBase_199 : decode cX3_applyBase 199 = .ok (.goto 12, 3) := by decide +kernel
theorem dX3_applyBase_202 : decode cX3_applyBase 202 = .ok (.aload_n 0, 1) := by decide +kernel
theorem dX3_applyBase_203 : decode cX3_applyBase 203 = .ok (.getfield 21, 3) := by decide +kernel
theorem dX3_applyBase_206 : decode cX3_applyBase 206 = .ok (.lload 4, 2) := by decide +kernel
theorem dX3_applyBase_208 : decode cX3_applyBase 208 = .ok (.invokevirtual 159, 3) := by decide +kernel
theorem dX3_applyBase_211 : decode cX3_applyBase 211 = .ok (.invokevirtual 120, 3) := by decide +kernel
theorem dX3_applyBase_214 : decode cX3_applyBase 214 = .ok (.goto 196, 3) := by decide +kernel
theorem dX3_applyBase_217 : decode cX3_applyBase 217 = .ok (.aload_n 0, 1) := by decide +kernel
theorem dX3_applyBase_218 : decode cX3_applyBase 218 = .ok (.aload_n 0, 1) := by decide +kernel
theorem dX3_applyBase_219 : decode cX3_applyBase 219 = .ok (.getfield 21, 3) := by decide +kernel
theorem dX3_applyBase_222 : decode cX3_applyBase 222 = .ok (.aload_n 0, 1) := by decide +kernel
theorem dX3_applyBase_223 : decode cX3_applyBase 223 = .ok (.getfield 21, 3) := by decide +kernel
theorem dX3_applyBase_226 : decode cX3_applyBase 226 = .ok (.iload_n 2, 1) := by decide +kernel
theorem dX3_applyBase_227 : decode cX3_applyBase 227 = .ok (.invokevirtual 153, 3) := by decide +kernel
theorem dX3_applyBase_230 : decode cX3_applyBase 230 = .ok (.aload_n 0, 1) := by decide +kernel
theorem dX3_applyBase_231 : decode cX3_applyBase 231 = .ok (.getfield 21, 3) := by decide +kernel
theorem dX3_applyBase_234 : decode cX3_applyBase 234 = .ok (.iload_n 3, 1) := by decide +kernel
theorem dX3_applyBase_235 : decode cX3_applyBase 235 = .ok (.invokevirtual 153, 3) := by decide +kernel
theorem dX3_applyBase_238 : decode cX3_applyBase 238 = .ok (.lsub, 1) := by decide +kernel
theorem dX3_applyBase_239 : decode cX3_applyBase 239 = .ok (.lconst 0, 1) := by decide +kernel
theorem dX3_applyBase_240 : decode cX3_applyBase 240 = .ok (.invokestatic 163, 3) := by decide +kernel
theorem dX3_applyBase_243 : decode cX3_applyBase 243 = .ok (.invokevirtual 159, 3) := by decide +kernel
theorem dX3_applyBase_246 : decode cX3_applyBase 246 = .ok (.invokevirtual 120, 3) := by decide +kernel
theorem dX3_applyBase_249 : decode cX3_applyBase 249 = .ok (.goto 161, 3) := by decide +kernel
theorem dX3_applyBase_252 : decode cX3_applyBase 252 = .ok (.aload_n 0, 1) := by decide +kernel
theorem dX3_applyBase_253 : decode cX3_applyBase 253 = .ok (.aload_n 0, 1) := by decide +kernel
theorem dX3_applyBase_254 : decode cX3_applyBase 254 = .ok (.getfield 21, 3) := by decide +kernel
theorem dX3_applyBase_257 : decode cX3_applyBase 257 = .ok (.iload_n 2, 1) := by decide +kernel
theorem dX3_applyBase_258 : decode cX3_applyBase 258 = .ok (.invokevirtual 153, 3) := by decide +kernel
theorem dX3_applyBase_261 : decode cX3_applyBase 261 = .ok (.aload_n 0, 1) := by decide +kernel
theorem dX3_applyBase_262 : decode cX3_applyBase 262 = .ok (.getfield 21, 3) := by decide +kernel
theorem dX3_applyBase_265 : decode cX3_applyBase 265 = .ok (.iload_n 3, 1) := by decide +kernel
theorem dX3_applyBase_266 : decode cX3_applyBase 266 = .ok (.invokevirtual 153, 3) := by decide +kernel
theorem dX3_applyBase_269 : decode cX3_applyBase 269 = .ok (.lcmp, 1) := by decide +kernel
theorem dX3_applyBase_270 : decode cX3_applyBase 270 = .ok (.ifCond .ge 7, 3) := by decide +kernel
theorem dX3_applyBase_273 : decode cX3_applyBase 273 = .ok (.iconst 1, 1) := by decide +kernel
theorem dX3_applyBase_274 : decode cX3_applyBase 274 = .ok (.goto 4, 3) := by decide +kernel
theorem dX3_applyBase_277 : decode cX3_applyBase 277 = .ok (.iconst 0, 1) := by decide +kernel
theorem dX3_applyBase_278 : decode cX3_applyBase 278 = .ok (.invokestatic 145, 3) := by decide +kernel
theorem dX3_applyBase_281 : decode cX3_applyBase 281 = .ok (.invokevirtual 120, 3) := by decide +kernel
theorem dX3_applyBase_284 : decode cX3_applyBase 284 = .ok (.goto 126, 3) := by decide +kernel
theorem dX3_applyBase_287 : decode cX3_applyBase 287 = .ok (.aload_n 0, 1) := by decide +kernel
theorem dX3_applyBase_288 : decode cX3_applyBase 288 = .ok (.aload_n 0, 1) := by decide +kernel
theorem dX3_applyBase_289 : decode cX3_applyBase 289 = .ok (.getfield 21, 3) := by decide +kernel
theorem dX3_applyBase_292 : decode cX3_applyBase 292 = .ok (.iload_n 2, 1) := by decide +kernel
theorem dX3_applyBase_293 : decode cX3_applyBase 293 = .ok (.invokevirtual 79, 3) := by decide +kernel
theorem dX3_applyBase_296 : decode cX3_applyBase 296 = .ok (.invokestatic 145, 3) := by decide +kernel
theorem dX3_applyBase_299 : decode cX3_applyBase 299 = .ok (.invokevirtual 120, 3) := by decide +kernel
theorem dX3_applyBase_302 : decode cX3_applyBase 302 = .ok (.goto 108, 3) := by decide +kernel
theorem dX3_applyBase_305 : decode cX3_applyBase 305 = .ok (.aload_n 0, 1) := by decide +kernel
theorem dX3_applyBase_306 : decode cX3_applyBase 306 = .ok (.aload_n 0, 1) := by decide +kernel
theorem dX3_applyBase_307 : decode cX3_applyBase 307 = .ok (.getfield 21, 3) := by decide +kernel
theorem dX3_applyBase_310 : decode cX3_applyBase 310 = .ok (.iload_n 2, 1) := by decide +kernel
theorem dX3_applyBase_311 : decode cX3_applyBase 311 = .ok (.invokevirtual 85, 3) := by decide +kernel
theorem dX3_applyBase_314 : decode cX3_applyBase 314 = .ok (.invokevirtual 120, 3) := by decide +kernel
theorem dX3_applyBase_317 : decode cX3_applyBase 317 = .ok (.goto 93, 3) := by decide +kernel
theorem dX3_applyBase_320 : decode cX3_applyBase 320 = .ok (.aload_n 0, 1) := by decide +kernel
theorem dX3_applyBase_321 : decode cX3_applyBase 321 = .ok (.aload_n 0, 1) := by decide +kernel
theorem dX3_applyBase_322 : decode cX3_applyBase 322 = .ok (.getfield 21, 3) := by decide +kernel
theorem dX3_applyBase_325 : decode cX3_applyBase 325 = .ok (.iload_n 2, 1) := by decide +kernel
theorem dX3_applyBase_326 : decode cX3_applyBase 326 = .ok (.invokevirtual 90, 3) := by decide +kernel
theorem dX3_applyBase_329 : decode cX3_applyBase 329 = .ok (.invokevirtual 120, 3) := by decide +kernel
theorem dX3_applyBase_332 : decode cX3_applyBase 332 = .ok (.goto 78, 3) := by decide +kernel
theorem dX3_applyBase_335 : decode cX3_applyBase 335 = .ok (.aload_n 0, 1) := by decide +kernel
theorem dX3_applyBase_336 : decode cX3_applyBase 336 = .ok (.aload_n 0, 1) := by decide +kernel
theorem dX3_applyBase_337 : decode cX3_applyBase 337 = .ok (.getfield 21, 3) := by decide +kernel
theorem dX3_applyBase_340 : decode cX3_applyBase 340 = .ok (.iload_n 2, 1) := by decide +kernel
theorem dX3_applyBase_341 : decode cX3_applyBase 341 = .ok (.invokevirtual 169, 3) := by decide +kernel
theorem dX3_applyBase_344 : decode cX3_applyBase 344 = .ok (.invokestatic 145, 3) := by decide +kernel
theorem dX3_applyBase_347 : decode cX3_applyBase 347 = .ok (.invokevirtual 120, 3) := by decide +kernel
theorem dX3_applyBase_350 : decode cX3_applyBase 350 = .ok (.goto 60, 3) := by decide +kernel
theorem dX3_applyBase_353 : decode cX3_applyBase 353 = .ok (.aload_n 0, 1) := by decide +kernel
theorem dX3_applyBase_354 : decode cX3_applyBase 354 = .ok (.aload_n 0, 1) := by decide +kernel
theorem dX3_applyBase_355 : decode cX3_applyBase 355 = .ok (.getfield 21, 3) := by decide +kernel
theorem dX3_applyBase_358 : decode cX3_applyBase 358 = .ok (.iload_n 2, 1) := by decide +kernel
theorem dX3_applyBase_359 : decode cX3_applyBase 359 = .ok (.invokevirtual 172, 3) := by decide +kernel
theorem dX3_applyBase_362 : decode cX3_applyBase 362 = .ok (.invokestatic 145, 3) := by decide +kernel
theorem dX3_applyBase_365 : decode cX3_applyBase 365 = .ok (.invokevirtual 120, 3) := by decide +kernel
theorem dX3_applyBase_368 : decode cX3_applyBase 368 = .ok (.goto 42, 3) := by decide +kernel
theorem dX3_applyBase_371 : decode cX3_applyBase 371 = .ok (.aload_n 0, 1) := by decide +kernel
theorem dX3_applyBase_372 : decode cX3_applyBase 372 = .ok (.aload_n 0, 1) := by decide +kernel
theorem dX3_applyBase_373 : decode cX3_applyBase 373 = .ok (.getfield 21, 3) := by decide +kernel
theorem dX3_applyBase_376 : decode cX3_applyBase 376 = .ok (.aload_n 0, 1) := by decide +kernel
theorem dX3_applyBase_377 : decode cX3_applyBase 377 = .ok (.getfield 21, 3) := by decide +kernel
theorem dX3_applyBase_380 : decode cX3_applyBase 380 = .ok (.iload_n 2, 1) := by decide +kernel
theorem dX3_applyBase_381 : decode cX3_applyBase 381 = .ok (.invokevirtual 175, 3) := by decide +kernel
theorem dX3_applyBase_384 : decode cX3_applyBase 384 = .ok (.i2l, 1) := by decide +kernel
theorem dX3_applyBase_385 : decode cX3_applyBase 385 = .ok (.invokevirtual 159, 3) := by decide +kernel
theorem dX3_applyBase_388 : decode cX3_applyBase 388 = .ok (.invokevirtual 120, 3) := by decide +kernel
theorem dX3_applyBase_391 : decode cX3_applyBase 391 = .ok (.goto 19, 3) := by decide +kernel
theorem dX3_applyBase_394 : decode cX3_applyBase 394 = .ok (.aload_n 0, 1) := by decide +kernel
theorem dX3_applyBase_395 : decode cX3_applyBase 395 = .ok (.iload_n 2, 1) := by decide +kernel
theorem dX3_applyBase_396 : decode cX3_applyBase 396 = .ok (.ifCond .ne 7, 3) := by decide +kernel
theorem dX3_applyBase_399 : decode cX3_applyBase 399 = .ok (.iconst 1, 1) := by decide +kernel
theorem dX3_applyBase_400 : decode cX3_applyBase 400 = .ok (.goto 4, 3) := by decide +kernel
theorem dX3_applyBase_403 : decode cX3_applyBase 403 = .ok (.iconst 0, 1) := by decide +kernel
theorem dX3_applyBase_404 : decode cX3_applyBase 404 = .ok (.invokestatic 145, 3) := by decide +kernel
theorem dX3_applyBase_407 : decode cX3_applyBase 407 = .ok (.invokevirtual 120, 3) := by decide +kernel
theorem dX3_applyBase_410 : decode cX3_applyBase 410 = .ok (.return_, 1) := by decide +kernel
theorem dX3_truth_0 : decode cX3_truth 0 = .ok (.iload_n 0, 1) := by decide +kernel
theorem dX3_truth_1 : decode cX3_truth 1 = .ok (.ifCond .eq 7, 3) := by decide +kernel
theorem dX3_truth_4 : decode cX3_truth 4 = .ok (.iconst 1, 1) := by decide +kernel
theorem dX3_truth_5 : decode cX3_truth 5 = .ok (.goto 4, 3) := by decide +kernel
theorem dX3_truth_8 : decode cX3_truth 8 = .ok (.iconst 0, 1) := by decide +kernel
theorem dX3_truth_9 : decode cX3_truth 9 = .ok (.ireturn, 1) := by decide +kernel
theorem dX4_init_0 : decode cX4_init 0 = .ok (.aload_n 0, 1) := by decide +kernel
theorem dX4_init_1 : decode cX4_init 1 = .ok (.invokespecial 3, 3) := by decide +kernel
theorem dX4_init_4 : decode cX4_init 4 = .ok (.aload_n 0, 1) := by decide +kernel
theorem dX4_init_5 : decode cX4_init 5 = .ok (.bipush 40, 2) := by decide +kernel
theorem dX4_init_7 : decode cX4_init 7 = .ok (.anewarray 9, 3) := by decide +kernel
theorem dX4_init_10 : decode cX4_init 10 = .ok (.putfield 11, 3) := by decide +kernel
theorem dX4_init_13 : decode cX4_init 13 = .ok (.return_, 1) := by decide +kernel
theorem dX4_find_0 : decode cX4_find 0 = .ok (.iconst 0, 1) := by decide +kernel
theorem dX4_find_1 : decode cX4_find 1 = .ok (.istore_n 2, 1) := by decide +kernel
theorem dX4_find_2 : decode cX4_find 2 = .ok (.iload_n 2, 1) := by decide +kernel
theorem dX4_find_3 : decode cX4_find 3 = .ok (.aload_n 0, 1) := by decide +kernel
theorem dX4_find_4 : decode cX4_find 4 = .ok (.getfield 17, 3) := by decide +kernel
theorem dX4_find_7 : decode cX4_find 7 = .ok (.if_icmp .ge 36, 3) := by decide +kernel
theorem dX4_find_10 : decode cX4_find 10 = .ok (.iload_n 2, 1) := by decide +kernel
theorem dX4_find_11 : decode cX4_find 11 = .ok (.bipush 40, 2) := by decide +kernel
theorem dX4_find_13 : decode cX4_find 13 = .ok (.if_icmp .ge 30, 3) := by decide +kernel
theorem dX4_find_16 : decode cX4_find 16 = .ok (.aload_n 0, 1) := by decide +kernel
theorem dX4_find_17 : decode cX4_find 17 = .ok (.getfield 11, 3) := by decide +kernel
theorem dX4_find_20 : decode cX4_find 20 = .ok (.iload_n 2, 1) := by decide +kernel
theorem dX4_find_21 : decode cX4_find 21 = .ok (.aaload, 1) := by decide +kernel
theorem dX4_find_22 : decode cX4_find 22 = .ok (.astore_n 3, 1) := by decide +kernel
theorem dX4_find_23 : decode cX4_find 23 = .ok (.aload_n 3, 1) := by decide +kernel
theorem dX4_find_24 : decode cX4_find 24 = .ok (.ifnull 13, 3) := by decide +kernel
theorem dX4_find_27 : decode cX4_find 27 = .ok (.aload_n 3, 1) := by decide +kernel
theorem dX4_find_28 : decode cX4_find 28 = .ok (.getfield 21, 3) := by decide +kernel
theorem dX4_find_31 : decode cX4_find 31 = .ok (.iload_n 1, 1) := by decide +kernel
theorem dX4_find_32 : decode cX4_find 32 = .ok (.if_icmp .ne 5, 3) := by decide +kernel
theorem dX4_find_35 : decode cX4_find 35 = .ok (.aload_n 3, 1) := by decide +kernel
theorem dX4_find_36 : decode cX4_find 36 = .ok (.areturn, 1) := by decide +kernel
theorem dX4_find_37 : decode cX4_find 37 = .ok (.iinc 2 1, 3) := by decide +kernel
theorem dX4_find_40 : decode cX4_find 40 = .ok (.goto (-38), 3) := by decide +kernel
theorem dX4_find_43 : decode cX4_find 43 = .ok (.aconst_null, 1) := by decide +kernel
theorem dX4_find_44 : decode cX4_find 44 = .ok (.areturn, 1) := by decide +kernel
theorem dX4_at_0 : decode cX4_at 0 = .ok (.iload_n 1, 1) := by decide +kernel
theorem dX4_at_1 : decode cX4_at 1 = .ok (.ifCond .lt 26, 3) := by decide +kernel
theorem dX4_at_4 : decode cX4_at 4 = .ok (.iload_n 1, 1) := by decide +kernel
theorem dX4_at_5 : decode cX4_at 5 = .ok (.aload_n 0, 1) := by decide +kernel
theorem dX4_at_6 : decode cX4_at 6 = .ok (.getfield 17, 3) := by decide +kernel
theorem dX4_at_9 : decode cX4_at 9 = .ok (.if_icmp .ge 18, 3) := by decide +kernel
theorem dX4_at_12 : decode cX4_at 12 = .ok (.iload_n 1, 1) := by decide +kernel
theorem dX4_at_13 : decode cX4_at 13 = .ok (.bipush 40, 2) := by decide +kernel
theorem dX4_at_15 : decode cX4_at 15 = .ok (.if_icmp .ge 12, 3) := by decide +kernel
theorem dX4_at_18 : decode cX4_at 18 = .ok (.aload_n 0, 1) := by decide +kernel
theorem dX4_at_19 : decode cX4_at 19 = .ok (.getfield 11, 3) := by decide +kernel
theorem dX4_at_22 : decode cX4_at 22 = .ok (.iload_n 1, 1) := by decide +kernel
theorem dX4_at_23 : decode cX4_at 23 = .ok (.aaload, 1) := by decide +kernel
theorem dX4_at_24 : decode cX4_at 24 = .ok (.goto 4, 3) := by decide +kernel
theorem dX4_at_27 : decode cX4_at 27 = .ok (.aconst_null, 1) := by decide +kernel
theorem dX4_at_28 : decode cX4_at 28 = .ok (.areturn, 1) := by decide +kernel
theorem dX4_isFull_0 : decode cX4_isFull 0 = .ok (.aload_n 0, 1) := by decide +kernel
theorem dX4_isFull_1 : decode cX4_isFull 1 = .ok (.getfield 17, 3) := by decide +kernel
theorem dX4_isFull_4 : decode cX4_isFull 4 = .ok (.bipush 40, 2) := by decide +kernel
theorem dX4_isFull_6 : decode cX4_isFull 6 = .ok (.if_icmp .lt 7, 3) := by decide +kernel
theorem dX4_isFull_9 : decode cX4_isFull 9 = .ok (.iconst 1, 1) := by decide +kernel
theorem dX4_isFull_10 : decode cX4_isFull 10 = .ok (.goto 4, 3) := by decide +kernel
theorem dX4_isFull_13 : decode cX4_isFull 13 = .ok (.iconst 0, 1) := by decide +kernel
theorem dX4_isFull_14 : decode cX4_isFull 14 = .ok (.ireturn, 1) := by decide +kernel
theorem dX4_add_0 : decode cX4_add 0 = .ok (.aload_n 0, 1) := by decide +kernel
theorem dX4_add_1 : decode cX4_add 1 = .ok (.invokevirtual 24, 3) := by decide +kernel
theorem dX4_add_4 : decode cX4_add 4 = .ok (.ifCond .ne 23, 3) := by decide +kernel
theorem dX4_add_7 : decode cX4_add 7 = .ok (.aload_n 0, 1) := by decide +kernel
theorem dX4_add_8 : decode cX4_add 8 = .ok (.getfield 11, 3) := by decide +kernel
theorem dX4_add_11 : decode cX4_add 11 = .ok (.aload_n 0, 1) := by decide +kernel
theorem dX4_add_12 : decode cX4_add 12 = .ok (.getfield 17, 3) := by decide +kernel
theorem dX4_add_15 : decode cX4_add 15 = .ok (.aload_n 1, 1) := by decide +kernel
theorem dX4_add_16 : decode cX4_add 16 = .ok (.aastore, 1) := by decide +kernel
theorem dX4_add_17 : decode cX4_add 17 = .ok (.aload_n 0, 1) := by decide +kernel
theorem dX4_add_18 : decode cX4_add 18 = .ok (.dup, 1) := by decide +kernel
theorem dX4_add_19 : decode cX4_add 19 = .ok (.getfield 17, 3) := by decide +kernel
theorem dX4_add_22 : decode cX4_add 22 = .ok (.iconst 1, 1) := by decide +kernel
theorem dX4_add_23 : decode cX4_add 23 = .ok (.iadd, 1) := by decide +kernel
theorem dX4_add_24 : decode cX4_add 24 = .ok (.putfield 17, 3) := by decide +kernel
theorem dX4_add_27 : decode cX4_add 27 = .ok (.return_, 1) := by decide +kernel
theorem dX4_removeLast_0 : decode cX4_removeLast 0 = .ok (.aload_n 0, 1) := by decide +kernel
theorem dX4_removeLast_1 : decode cX4_removeLast 1 = .ok (.getfield 17, 3) := by decide +kernel
theorem dX4_removeLast_4 : decode cX4_removeLast 4 = .ok (.ifCond .le 23, 3) := by decide +kernel
theorem dX4_removeLast_7 : decode cX4_removeLast 7 = .ok (.aload_n 0, 1) := by decide +kernel
theorem dX4_removeLast_8 : decode cX4_removeLast 8 = .ok (.dup, 1) := by decide +kernel
theorem dX4_removeLast_9 : decode cX4_removeLast 9 = .ok (.getfield 17, 3) := by decide +kernel
theorem dX4_removeLast_12 : decode cX4_removeLast 12 = .ok (.iconst 1, 1) := by decide +kernel
theorem dX4_removeLast_13 : decode cX4_removeLast 13 = .ok (.isub, 1) := by decide +kernel
theorem dX4_removeLast_14 : decode cX4_removeLast 14 = .ok (.putfield 17, 3) := by decide +kernel
theorem dX4_removeLast_17 : decode cX4_removeLast 17 = .ok (.aload_n 0, 1) := by decide +kernel
theorem dX4_removeLast_18 : decode cX4_removeLast 18 = .ok (.getfield 11, 3) := by decide +kernel
theorem dX4_removeLast_21 : decode cX4_removeLast 21 = .ok (.aload_n 0, 1) := by decide +kernel
theorem dX4_removeLast_22 : decode cX4_removeLast 22 = .ok (.getfield 17, 3) := by decide +kernel
theorem dX4_removeLast_25 : decode cX4_removeLast 25 = .ok (.aconst_null, 1) := by decide +kernel
theorem dX4_removeLast_26 : decode cX4_removeLast 26 = .ok (.aastore, 1) := by decide +kernel
theorem dX4_removeLast_27 : decode cX4_removeLast 27 = .ok (.return_, 1) := by decide +kernel
theorem dX5_init_0 : decode cX5_init 0 = .ok (.aload_n 0, 1) := by decide +kernel
theorem dX5_init_1 : decode cX5_init 1 = .ok (.invokespecial 3, 3) := by decide +kernel
theorem dX5_init_4 : decode cX5_init 4 = .ok (.aload_n 0, 1) := by decide +kernel
theorem dX5_init_5 : decode cX5_init 5 = .ok (.sipush 3000, 3) := by decide +kernel
theorem dX5_init_8 : decode cX5_init 8 = .ok (.newarray .char, 2) := by decide +kernel
theorem dX5_init_10 : decode cX5_init 10 = .ok (.putfield 9, 3) := by decide +kernel
theorem dX5_init_13 : decode cX5_init 13 = .ok (.aload_n 0, 1) := by decide +kernel
theorem dX5_init_14 : decode cX5_init 14 = .ok (.iconst (-1), 1) := by decide +kernel
theorem dX5_init_15 : decode cX5_init 15 = .ok (.putfield 15, 3) := by decide +kernel
theorem dX5_init_18 : decode cX5_init 18 = .ok (.aload_n 0, 1) := by decide +kernel
theorem dX5_init_19 : decode cX5_init 19 = .ok (.sipush 1000, 3) := by decide +kernel
theorem dX5_init_22 : decode cX5_init 22 = .ok (.newarray .int, 2) := by decide +kernel
theorem dX5_init_24 : decode cX5_init 24 = .ok (.putfield 19, 3) := by decide +kernel
theorem dX5_init_27 : decode cX5_init 27 = .ok (.aload_n 0, 1) := by decide +kernel
theorem dX5_init_28 : decode cX5_init 28 = .ok (.bipush 41, 2) := by decide +kernel
theorem dX5_init_30 : decode cX5_init 30 = .ok (.newarray .int, 2) := by decide +kernel
theorem dX5_init_32 : decode cX5_init 32 = .ok (.putfield 23, 3) := by decide +kernel
theorem dX5_init_35 : decode cX5_init 35 = .ok (.aload_n 0, 1) := by decide +kernel
theorem dX5_init_36 : decode cX5_init 36 = .ok (.bipush 41, 2) := by decide +kernel
theorem dX5_init_38 : decode cX5_init 38 = .ok (.newarray .int, 2) := by decide +kernel
theorem dX5_init_40 : decode cX5_init 40 = .ok (.putfield 26, 3) := by decide +kernel
theorem dX5_init_43 : decode cX5_init 43 = .ok (.aload_n 0, 1) := by decide +kernel
theorem dX5_init_44 : decode cX5_init 44 = .ok (.aload_n 1, 1) := by decide +kernel
theorem dX5_init_45 : decode cX5_init 45 = .ok (.putfield 29, 3) := by decide +kernel
theorem dX5_init_48 : decode cX5_init 48 = .ok (.return_, 1) := by decide +kernel
theorem dX5_append_0 : decode cX5_append 0 = .ok (.aload_n 0, 1) := by decide +kernel
theorem dX5_append_1 : decode cX5_append 1 = .ok (.getfield 33, 3) := by decide +kernel
theorem dX5_append_4 : decode cX5_append 4 = .ok (.sipush 3000, 3) := by decide +kernel
theorem dX5_append_7 : decode cX5_append 7 = .ok (.if_icmp .ge 23, 3) := by decide +kernel
theorem dX5_append_10 : decode cX5_append 10 = .ok (.aload_n 0, 1) := by decide +kernel
theorem dX5_append_11 : decode cX5_append 11 = .ok (.getfield 9, 3) := by decide +kernel
theorem dX5_append_14 : decode cX5_append 14 = .ok (.aload_n 0, 1) := by decide +kernel
theorem dX5_append_15 : decode cX5_append 15 = .ok (.getfield 33, 3) := by decide +kernel
theorem dX5_append_18 : decode cX5_append 18 = .ok (.iload_n 1, 1) := by decide +kernel
theorem dX5_append_19 : decode cX5_append 19 = .ok (.castore, 1) := by decide +kernel
theorem dX5_append_20 : decode cX5_append 20 = .ok (.aload_n 0, 1) := by decide +kernel
theorem dX5_append_21 : decode cX5_append 21 = .ok (.dup, 1) := by decide +kernel
theorem dX5_append_22 : decode cX5_append 22 = .ok (.getfield 33, 3) := by decide +kernel
theorem dX5_append_25 : decode cX5_append 25 = .ok (.iconst 1, 1) := by decide +kernel
theorem dX5_append_26 : decode cX5_append 26 = .ok (.iadd, 1) := by decide +kernel
theorem dX5_append_27 : decode cX5_append 27 = .ok (.putfield 33, 3) := by decide +kernel
theorem dX5_append_30 : decode cX5_append 30 = .ok (.return_, 1) := by decide +kernel
theorem dX5_clear_0 : decode cX5_clear 0 = .ok (.aload_n 0, 1) := by decide +kernel
theorem dX5_clear_1 : decode cX5_clear 1 = .ok (.iconst 0, 1) := by decide +kernel
theorem dX5_clear_2 : decode cX5_clear 2 = .ok (.putfield 33, 3) := by decide +kernel
theorem dX5_clear_5 : decode cX5_clear 5 = .ok (.aload_n 0, 1) := by decide +kernel
theorem dX5_clear_6 : decode cX5_clear 6 = .ok (.iconst 0, 1) := by decide +kernel
theorem dX5_clear_7 : decode cX5_clear 7 = .ok (.putfield 36, 3) := by decide +kernel
theorem dX5_clear_10 : decode cX5_clear 10 = .ok (.aload_n 0, 1) := by decide +kernel
theorem dX5_clear_11 : decode cX5_clear 11 = .ok (.iconst (-1), 1) := by decide +kernel
theorem dX5_clear_12 : decode cX5_clear 12 = .ok (.putfield 15, 3) := by decide +kernel
theorem dX5_clear_15 : decode cX5_clear 15 = .ok (.aload_n 0, 1) := by decide +kernel
theorem dX5_clear_16 : decode cX5_clear 16 = .ok (.iconst 0, 1) := by decide +kernel
theorem dX5_clear_17 : decode cX5_clear 17 = .ok (.putfield 39, 3) := by decide +kernel
theorem dX5_clear_20 : decode cX5_clear 20 = .ok (.aload_n 0, 1) := by decide +kernel
theorem dX5_clear_21 : decode cX5_clear 21 = .ok (.iconst 0, 1) := by decide +kernel
theorem dX5_clear_22 : decode cX5_clear 22 = .ok (.putfield 42, 3) := by decide +kernel
theorem dX5_clear_25 : decode cX5_clear 25 = .ok (.aload_n 0, 1) := by decide +kernel
theorem dX5_clear_26 : decode cX5_clear 26 = .ok (.iconst 0, 1) := by decide +kernel
theorem dX5_clear_27 : decode cX5_clear 27 = .ok (.putfield 45, 3) := by decide +kernel
theorem dX5_clear_30 : decode cX5_clear 30 = .ok (.aload_n 0, 1) := by decide +kernel
theorem dX5_clear_31 : decode cX5_clear 31 = .ok (.getfield 26, 3) := by decide +kernel
theorem dX5_clear_34 : decode cX5_clear 34 = .ok (.iconst 0, 1) := by decide +kernel
theorem dX5_clear_35 : decode cX5_clear 35 = .ok (.iconst 0, 1) := by decide +kernel
theorem dX5_clear_36 : decode cX5_clear 36 = .ok (.iastore, 1) := by decide +kernel
theorem dX5_clear_37 : decode cX5_clear 37 = .ok (.return_, 1) := by decide +kernel
theorem dX5_read_0 : decode cX5_read 0 = .ok (.aload_n 0, 1) := by decide +kernel
theorem dX5_read_1 : decode cX5_read 1 = .ok (.getfield 33, 3) := by decide +kernel
theorem dX5_read_4 : decode cX5_read 4 = .ok (.istore_n 1, 1) := by decide +kernel
theorem dX5_read_5 : decode cX5_read 5 = .ok (.aload_n 0, 1) := by decide +kernel
theorem dX5_read_6 : decode cX5_read 6 = .ok (.invokevirtual 48, 3) := by decide +kernel
theorem dX5_read_9 : decode cX5_read 9 = .ok (.aload_n 0, 1) := by decide +kernel
theorem dX5_read_10 : decode cX5_read 10 = .ok (.iconst 0, 1) := by decide +kernel
theorem dX5_read_11 : decode cX5_read 11 = .ok (.iload_n 1, 1) := by decide +kernel
theorem dX5_read_12 : decode cX5_read 12 = .ok (.invokevirtual 51, 3) := by decide +kernel
theorem dX5_read_15 : decode cX5_read 15 = .ok (.istore_n 2, 1) := by decide +kernel
theorem dX5_read_16 : decode cX5_read 16 = .ok (.iconst 0, 1) := by decide +kernel
theorem dX5_read_17 : decode cX5_read 17 = .ok (.istore_n 3, 1) := by decide +kernel
theorem dX5_read_18 : decode cX5_read 18 = .ok (.iload_n 3, 1) := by decide +kernel
theorem dX5_read_19 : decode cX5_read 19 = .ok (.sipush 1000, 3) := by decide +kernel
theorem dX5_read_22 : decode cX5_read 22 = .ok (.if_icmp .gt 65, 3) := by decide +kernel
theorem dX5_read_25 : decode cX5_read 25 = .ok (.iload_n 2, 1) := by decide +kernel
theorem dX5_read_26 : decode cX5_read 26 = .ok (.iload_n 1, 1) := by decide +kernel
theorem dX5_read_27 : decode cX5_read 27 = .ok (.if_icmp .ge 60, 3) := by decide +kernel
theorem dX5_read_30 : decode cX5_read 30 = .ok (.aload_n 0, 1) := by decide +kernel
theorem dX5_read_31 : decode cX5_read 31 = .ok (.getfield 36, 3) := by decide +kernel
theorem dX5_read_34 : decode cX5_read 34 = .ok (.ifCond .ne 53, 3) := by decide +kernel
theorem dX5_read_37 : decode cX5_read 37 = .ok (.aload_n 0, 1) := by decide +kernel
theorem dX5_read_38 : decode cX5_read 38 = .ok (.iload_n 2, 1) := by decide +kernel
theorem dX5_read_39 : decode cX5_read 39 = .ok (.iload_n 1, 1) := by decide +kernel
theorem dX5_read_40 : decode cX5_read 40 = .ok (.invokevirtual 55, 3) := by decide +kernel
theorem dX5_read_43 : decode cX5_read 43 = .ok (.istore 4, 2) := by decide +kernel
theorem dX5_read_45 : decode cX5_read 45 = .ok (.aload_n 0, 1) := by decide +kernel
theorem dX5_read_46 : decode cX5_read 46 = .ok (.aload_n 0, 1) := by decide +kernel
theorem dX5_read_47 : decode cX5_read 47 = .ok (.iload_n 2, 1) := by decide +kernel
theorem dX5_read_48 : decode cX5_read 48 = .ok (.iload 4, 2) := by decide +kernel
theorem dX5_read_50 : decode cX5_read 50 = .ok (.invokevirtual 58, 3) := by decide +kernel
theorem dX5_read_53 : decode cX5_read 53 = .ok (.putfield 36, 3) := by decide +kernel
theorem dX5_read_56 : decode cX5_read 56 = .ok (.aload_n 0, 1) := by decide +kernel
theorem dX5_read_57 : decode cX5_read 57 = .ok (.getfield 36, 3) := by decide +kernel
theorem dX5_read_60 : decode cX5_read 60 = .ok (.ifCond .ne 21, 3) := by decide +kernel
theorem dX5_read_63 : decode cX5_read 63 = .ok (.aload_n 0, 1) := by decide +kernel
theorem dX5_read_64 : decode cX5_read 64 = .ok (.aload_n 0, 1) := by decide +kernel
theorem dX5_read_65 : decode cX5_read 65 = .ok (.getfield 9, 3) := by decide +kernel
theorem dX5_read_68 : decode cX5_read 68 = .ok (.iload_n 2, 1) := by decide +kernel
theorem dX5_read_69 : decode cX5_read 69 = .ok (.caload, 1) := by decide +kernel
theorem dX5_read_70 : decode cX5_read 70 = .ok (.invokevirtual 61, 3) := by decide +kernel
theorem dX5_read_73 : decode cX5_read 73 = .ok (.aload_n 0, 1) := by decide +kernel
theorem dX5_read_74 : decode cX5_read 74 = .ok (.iload 4, 2) := by decide +kernel
theorem dX5_read_76 : decode cX5_read 76 = .ok (.iload_n 1, 1) := by decide +kernel
theorem dX5_read_77 : decode cX5_read 77 = .ok (.invokevirtual 51, 3) := by decide +kernel
theorem dX5_read_80 : decode cX5_read 80 = .ok (.istore_n 2, 1) := by decide +kernel
theorem dX5_read_81 : decode cX5_read 81 = .ok (.iinc 3 1, 3) := by decide +kernel
theorem dX5_read_84 : decode cX5_read 84 = .ok (.goto (-66), 3) := by decide +kernel
theorem dX5_read_87 : decode cX5_read 87 = .ok (.aload_n 0, 1) := by decide +kernel
theorem dX5_read_88 : decode cX5_read 88 = .ok (.getfield 36, 3) := by decide +kernel
theorem dX5_read_91 : decode cX5_read 91 = .ok (.ifCond .ne 18, 3) := by decide +kernel
theorem dX5_read_94 : decode cX5_read 94 = .ok (.aload_n 0, 1) := by decide +kernel
theorem dX5_read_95 : decode cX5_read 95 = .ok (.getfield 26, 3) := by decide +kernel
theorem dX5_read_98 : decode cX5_read 98 = .ok (.iconst 0, 1) := by decide +kernel
theorem dX5_read_99 : decode cX5_read 99 = .ok (.iaload, 1) := by decide +kernel
theorem dX5_read_100 : decode cX5_read 100 = .ok (.iconst 1, 1) := by decide +kernel
theorem dX5_read_101 : decode cX5_read 101 = .ok (.if_icmp .eq 8, 3) := by decide +kernel
theorem dX5_read_104 : decode cX5_read 104 = .ok (.aload_n 0, 1) := by decide +kernel
theorem dX5_read_105 : decode cX5_read 105 = .ok (.iconst 3, 1) := by decide +kernel
theorem dX5_read_106 : decode cX5_read 106 = .ok (.putfield 36, 3) := by decide +kernel
theorem dX5_read_109 : decode cX5_read 109 = .ok (.aload_n 0, 1) := by decide +kernel
theorem dX5_read_110 : decode cX5_read 110 = .ok (.getfield 36, 3) := by decide +kernel
theorem dX5_read_113 : decode cX5_read 113 = .ok (.ifCond .eq 10, 3) := by decide +kernel
theorem dX5_read_116 : decode cX5_read 116 = .ok (.aload_n 0, 1) := by decide +kernel
theorem dX5_read_117 : decode cX5_read 117 = .ok (.iload_n 2, 1) := by decide +kernel
theorem dX5_read_118 : decode cX5_read 118 = .ok (.putfield 15, 3) := by decide +kernel
theorem dX5_read_121 : decode cX5_read 121 = .ok (.iconst (-1), 1) := by decide +kernel
theorem dX5_read_122 : decode cX5_read 122 = .ok (.ireturn, 1) := by decide +kernel
theorem dX5_read_123 : decode cX5_read 123 = .ok (.aload_n 0, 1) := by decide +kernel
theorem dX5_read_124 : decode cX5_read 124 = .ok (.getfield 19, 3) := by decide +kernel
theorem dX5_read_127 : decode cX5_read 127 = .ok (.iconst 0, 1) := by decide +kernel
theorem dX5_read_128 : decode cX5_read 128 = .ok (.iaload, 1) := by decide +kernel
theorem dX5_read_129 : decode cX5_read 129 = .ok (.ireturn, 1) := by decide +kernel
theorem dX5_behindBlanks_0 : decode cX5_behindBlanks 0 = .ok (.iconst 0, 1) := by decide +kernel
theorem dX5_behindBlanks_1 : decode cX5_behindBlanks 1 = .ok (.istore_n 3, 1) := by decide +kernel
theorem dX5_behindBlanks_2 : decode cX5_behindBlanks 2 = .ok (.iload_n 1, 1) := by decide +kernel
theorem dX5_behindBlanks_3 : decode cX5_behindBlanks 3 = .ok (.istore 4, 2) := by decide +kernel
theorem dX5_behindBlanks_5 : decode cX5_behindBlanks 5 = .ok (.iload 4, 2) := by decide +kernel
theorem dX5_behindBlanks_7 : decode cX5_behindBlanks 7 = .ok (.iload_n 2, 1) := by decide +kernel
theorem dX5_behindBlanks_8 : decode cX5_behindBlanks 8 = .ok (.if_icmp .ge 56, 3) := by decide +kernel
theorem dX5_behindBlanks_11 : decode cX5_behindBlanks 11 = .ok (.aload_n 0, 1) := by decide +kernel
theorem dX5_behindBlanks_12 : decode cX5_behindBlanks 12 = .ok (.getfield 9, 3) := by decide +kernel
theorem dX5_behindBlanks_15 : decode cX5_behindBlanks 15 = .ok (.iload 4, 2) := by decide +kernel
theorem dX5_behindBlanks_17 : decode cX5_behindBlanks 17 = .ok (.caload, 1) := by decide +kernel
theorem dX5_behindBlanks_18 : decode cX5_behindBlanks 18 = .ok (.istore 5, 2) := by decide +kernel
theorem dX5_behindBlanks_20 : decode cX5_behindBlanks 20 = .ok (.iload 5, 2) := by decide +kernel
theorem dX5_behindBlanks_22 : decode cX5_behindBlanks 22 = .ok (.bipush 10, 2) := by decide +kernel
theorem dX5_behindBlanks_24 : decode cX5_behindBlanks 24 = .ok (.if_icmp .ne 8, 3) := by decide +kernel
theorem dX5_behindBlanks_27 : decode cX5_behindBlanks 27 = .ok (.iconst 0, 1) := by decide +kernel
theorem dX5_behindBlanks_28 : decode cX5_behindBlanks 28 = .ok (.istore_n 3, 1) := by decide +kernel
theorem dX5_behindBlanks_29 : decode cX5_behindBlanks 29 = .ok (.goto 29, 3) := by decide +kernel
theorem dX5_behindBlanks_32 : decode cX5_behindBlanks 32 = .ok (.iload 5, 2) := by decide +kernel
theorem dX5_behindBlanks_34 : decode cX5_behindBlanks 34 = .ok (.bipush 59, 2) := by decide +kernel
theorem dX5_behindBlanks_36 : decode cX5_behindBlanks 36 = .ok (.if_icmp .ne 8, 3) := by decide +kernel
theorem dX5_behindBlanks_39 : decode cX5_behindBlanks 39 = .ok (.iconst 1, 1) := by decide +kernel
theorem dX5_behindBlanks_40 : decode cX5_behindBlanks 40 = .ok (.istore_n 3, 1) := by decide +kernel
theorem dX5_behindBlanks_41 : decode cX5_behindBlanks 41 = .ok (.goto 17, 3) := by decide +kernel
theorem dX5_behindBlanks_44 : decode cX5_behindBlanks 44 = .ok (.iload 5, 2) := by decide +kernel
theorem dX5_behindBlanks_46 : decode cX5_behindBlanks 46 = .ok (.bipush 32, 2) := by decide +kernel
theorem dX5_behindBlanks_48 : decode cX5_behindBlanks 48 = .ok (.if_icmp .eq 10, 3) := by decide +kernel
theorem dX5_behindBlanks_51 : decode cX5_behindBlanks 51 = .ok (.iload_n 3, 1) := by decide +kernel
theorem dX5_behindBlanks_52 : decode cX5_behindBlanks 52 = .ok (.ifCond .ne 6, 3) := by decide +kernel
theorem dX5_behindBlanks_55 : decode cX5_behindBlanks 55 = .ok (.iload 4, 2) := by decide +kernel
theorem dX5_behindBlanks_57 : decode cX5_behindBlanks 57 = .ok (.ireturn, 1) := by decide +kernel
theorem dX5_behindBlanks_58 : decode cX5_behindBlanks 58 = .ok (.iinc 4 1, 3) := by decide +kernel
theorem dX5_behindBlanks_61 : decode cX5_behindBlanks 61 = .ok (.goto (-56), 3) := by decide +kernel
theorem dX5_behindBlanks_64 : decode cX5_behindBlanks 64 = .ok (.iload_n 2, 1) := by decide +kernel
theorem dX5_behindBlanks_65 : decode cX5_behindBlanks 65 = .ok (.ireturn, 1) := by decide +kernel
theorem dX5_behindWord_0 : decode cX5_behindWord 0 = .ok (.iload_n 1, 1) := by decide +kernel
theorem dX5_behindWord_1 : decode cX5_behindWord 1 = .ok (.istore_n 3, 1) := by decide +kernel
theorem dX5_behindWord_2 : decode cX5_behindWord 2 = .ok (.iload_n 3, 1) := by decide +kernel
theorem dX5_behindWord_3 : decode cX5_behindWord 3 = .ok (.iload_n 2, 1) := by decide +kernel
theorem dX5_behindWord_4 : decode cX5_behindWord 4 = .ok (.if_icmp .ge 21, 3) := by decide +kernel
theorem dX5_behindWord_7 : decode cX5_behindWord 7 = .ok (.aload_n 0, 1) := by decide +kernel
theorem dX5_behindWord_8 : decode cX5_behindWord 8 = .ok (.getfield 9, 3) := by decide +kernel
theorem dX5_behindWord_11 : decode cX5_behindWord 11 = .ok (.iload_n 3, 1) := by decide +kernel
theorem dX5_behindWord_12 : decode cX5_behindWord 12 = .ok (.caload, 1) := by decide +kernel
theorem dX5_behindWord_13 : decode cX5_behindWord 13 = .ok (.invokestatic 65, 3) := by decide +kernel
theorem dX5_behindWord_16 : decode cX5_behindWord 16 = .ok (.ifCond .eq 9, 3) := by decide +kernel
theorem dX5_behindWord_19 : decode cX5_behindWord 19 = .ok (.iinc 3 1, 3) := by decide +kernel
theorem dX5_behindWord_22 : decode cX5_behindWord 22 = .ok (.goto (-20), 3) := by decide +kernel
theorem dX5_behindWord_25 : decode cX5_behindWord 25 = .ok (.iload_n 3, 1) := by decide +kernel
theorem dX5_behindWord_26 : decode cX5_behindWord 26 = .ok (.iload_n 1, 1) := by decide +kernel
theorem dX5_behindWord_27 : decode cX5_behindWord 27 = .ok (.if_icmp .ne 9, 3) := by decide +kernel
theorem dX5_behindWord_30 : decode cX5_behindWord 30 = .ok (.iload_n 1, 1) := by decide +kernel
theorem dX5_behindWord_31 : decode cX5_behindWord 31 = .ok (.iconst 1, 1) := by decide +kernel
theorem dX5_behindWord_32 : decode cX5_behindWord 32 = .ok (.iadd, 1) := by decide +kernel
theorem dX5_behindWord_33 : decode cX5_behindWord 33 = .ok (.goto 4, 3) := by decide +kernel
theorem dX5_behindWord_36 : decode cX5_behindWord 36 = .ok (.iload_n 3, 1) := by decide +kernel
theorem dX5_behindWord_37 : decode cX5_behindWord 37 = .ok (.ireturn, 1) := by decide +kernel
theorem dX5_faultOfWord_0 : decode cX5_faultOfWord 0 = .ok (.aload_n 0, 1) := by decide +kernel
theorem dX5_faultOfWord_1 : decode cX5_faultOfWord 1 = .ok (.getfield 9, 3) := by decide +kernel
theorem dX5_faultOfWord_4 : decode cX5_faultOfWord 4 = .ok (.iload_n 1, 1) := by decide +kernel
theorem dX5_faultOfWord_5 : decode cX5_faultOfWord 5 = .ok (.caload, 1) := by decide +kernel
theorem dX5_faultOfWord_6 : decode cX5_faultOfWord 6 = .ok (.istore_n 3, 1) := by decide +kernel
theorem dX5_faultOfWord_7 : decode cX5_faultOfWord 7 = .ok (.iload_n 3, 1) := by decide +kernel
theorem dX5_faultOfWord_8 : decode cX5_faultOfWord 8 = .ok (.bipush 40, 2) := by decide +kernel
theorem dX5_faultOfWord_10 : decode cX5_faultOfWord 10 = .ok (.if_icmp .eq 9, 3) := by decide +kernel
theorem dX5_faultOfWord_13 : decode cX5_faultOfWord 13 = .ok (.iload_n 3, 1) := by decide +kernel
theorem dX5_faultOfWord_14 : decode cX5_faultOfWord 14 = .ok (.bipush 39, 2) := by decide +kernel
theorem dX5_faultOfWord_16 : decode cX5_faultOfWord 16 = .ok (.if_icmp .ne 7, 3) := by decide +kernel
theorem dX5_faultOfWord_19 : decode cX5_faultOfWord 19 = .ok (.iconst 1, 1) := by decide +kernel
theorem dX5_faultOfWord_20 : decode cX5_faultOfWord 20 = .ok (.goto 4, 3) := by decide +kernel
theorem dX5_faultOfWord_23 : decode cX5_faultOfWord 23 = .ok (.iconst 0, 1) := by decide +kernel
theorem dX5_faultOfWord_24 : decode cX5_faultOfWord 24 = .ok (.istore 4, 2) := by decide +kernel
theorem dX5_faultOfWord_26 : decode cX5_faultOfWord 26 = .ok (.iload 4, 2) := by decide +kernel
theorem dX5_faultOfWord_28 : decode cX5_faultOfWord 28 = .ok (.ifCond .ne 24, 3) := by decide +kernel
theorem dX5_faultOfWord_31 : decode cX5_faultOfWord 31 = .ok (.iload_n 3, 1) := by decide +kernel
theorem dX5_faultOfWord_32 : decode cX5_faultOfWord 32 = .ok (.bipush 41, 2) := by decide +kernel
theorem dX5_faultOfWord_34 : decode cX5_faultOfWord 34 = .ok (.if_icmp .eq 18, 3) := by decide +kernel
theorem dX5_faultOfWord_37 : decode cX5_faultOfWord 37 = .ok (.iload_n 3, 1) := by decide +kernel
theorem dX5_faultOfWord_38 : decode cX5_faultOfWord 38 = .ok (.bipush 46, 2) := by decide +kernel
theorem dX5_faultOfWord_40 : decode cX5_faultOfWord 40 = .ok (.if_icmp .eq 12, 3) := by decide +kernel
theorem dX5_faultOfWord_43 : decode cX5_faultOfWord 43 = .ok (.iload_n 3, 1) := by decide +kernel
theorem dX5_faultOfWord_44 : decode cX5_faultOfWord 44 = .ok (.invokestatic 65, 3) := by decide +kernel
theorem dX5_faultOfWord_47 : decode cX5_faultOfWord 47 = .ok (.ifCond .ne 5, 3) := by decide +kernel
theorem dX5_faultOfWord_50 : decode cX5_faultOfWord 50 = .ok (.iconst 1, 1) := by decide +kernel
theorem dX5_faultOfWord_51 : decode cX5_faultOfWord 51 = .ok (.ireturn, 1) := by decide +kernel
theorem dX5_faultOfWord_52 : decode cX5_faultOfWord 52 = .ok (.iload_n 3, 1) := by decide +kernel
theorem dX5_faultOfWord_53 : decode cX5_faultOfWord 53 = .ok (.invokestatic 65, 3) := by decide +kernel
theorem dX5_faultOfWord_56 : decode cX5_faultOfWord 56 = .ok (.ifCond .eq 14, 3) := by decide +kernel
theorem dX5_faultOfWord_59 : decode cX5_faultOfWord 59 = .ok (.aload_n 0, 1) := by decide +kernel
theorem dX5_faultOfWord_60 : decode cX5_faultOfWord 60 = .ok (.iload_n 1, 1) := by decide +kernel
theorem dX5_faultOfWord_61 : decode cX5_faultOfWord 61 = .ok (.iload_n 2, 1) := by decide +kernel
theorem dX5_faultOfWord_62 : decode cX5_faultOfWord 62 = .ok (.invokevirtual 69, 3) := by decide +kernel
theorem dX5_faultOfWord_65 : decode cX5_faultOfWord 65 = .ok (.ifCond .ne 5, 3) := by decide +kernel
theorem dX5_faultOfWord_68 : decode cX5_faultOfWord 68 = .ok (.iconst 2, 1) := by decide +kernel
theorem dX5_faultOfWord_69 : decode cX5_faultOfWord 69 = .ok (.ireturn, 1) := by decide +kernel
theorem dX5_faultOfWord_70 : decode cX5_faultOfWord 70 = .ok (.aload_n 0, 1) := by decide +kernel
theorem dX5_faultOfWord_71 : decode cX5_faultOfWord 71 = .ok (.iload_n 3, 1) := by decide +kernel
theorem dX5_faultOfWord_72 : decode cX5_faultOfWord 72 = .ok (.invokevirtual 73, 3) := by decide +kernel
theorem dX5_faultOfWord_75 : decode cX5_faultOfWord 75 = .ok (.ifCond .ne 5, 3) := by decide +kernel
theorem dX5_faultOfWord_78 : decode cX5_faultOfWord 78 = .ok (.iconst 3, 1) := by decide +kernel
theorem dX5_faultOfWord_79 : decode cX5_faultOfWord 79 = .ok (.ireturn, 1) := by decide +kernel
theorem dX5_faultOfWord_80 : decode cX5_faultOfWord 80 = .ok (.iload 4, 2) := by decide +kernel
theorem dX5_faultOfWord_82 : decode cX5_faultOfWord 82 = .ok (.ifCond .eq 14, 3) := by decide +kernel
theorem dX5_faultOfWord_85 : decode cX5_faultOfWord 85 = .ok (.aload_n 0, 1) := by decide +kernel
theorem dX5_faultOfWord_86 : decode cX5_faultOfWord 86 = .ok (.getfield 42, 3) := by decide +kernel
theorem dX5_faultOfWord_89 : decode cX5_faultOfWord 89 = .ok (.bipush 40, 2) := by decide +kernel
theorem dX5_faultOfWord_91 : decode cX5_faultOfWord 91 = .ok (.if_icmp .lt 5, 3) := by decide +kernel
theorem dX5_faultOfWord_94 : decode cX5_faultOfWord 94 = .ok (.iconst 4, 1) := by decide +kernel
theorem dX5_faultOfWord_95 : decode cX5_faultOfWord 95 = .ok (.ireturn, 1) := by decide +kernel
theorem dX5_faultOfWord_96 : decode cX5_faultOfWord 96 = .ok (.aload_n 0, 1) := by decide +kernel
theorem dX5_faultOfWord_97 : decode cX5_faultOfWord 97 = .ok (.getfield 45, 3) := by decide +kernel
theorem dX5_faultOfWord_100 : decode cX5_faultOfWord 100 = .ok (.sipush 1000, 3) := by decide +kernel
theorem dX5_faultOfWord_103 : decode cX5_faultOfWord 103 = .ok (.if_icmp .lt 7, 3) := by decide +kernel
theorem dX5_faultOfWord_106 : decode cX5_faultOfWord 106 = .ok (.iconst 5, 1) := by decide +kernel
theorem dX5_faultOfWord_107 : decode cX5_faultOfWord 107 = .ok (.goto 4, 3) := by decide +kernel
theorem dX5_faultOfWord_110 : decode cX5_faultOfWord 110 = .ok (.iconst 0, 1) := by decide +kernel
theorem dX5_faultOfWord_111 : decode cX5_faultOfWord 111 = .ok (.ireturn, 1) := by decide +kernel
theorem dX5_isAtomLetter_0 : decode cX5_isAtomLetter 0 = .ok (.ldc 76, 2) := by decide +kernel
theorem dX5_isAtomLetter_2 : decode cX5_isAtomLetter 2 = .ok (.iload_n 0, 1) := by decide +kernel
theorem dX5_isAtomLetter_3 : decode cX5_isAtomLetter 3 = .ok (.invokevirtual 78, 3) := by decide +kernel
theorem dX5_isAtomLetter_6 : decode cX5_isAtomLetter 6 = .ok (.ifCond .le 7, 3) := by decide +kernel
theorem dX5_isAtomLetter_9 : decode cX5_isAtomLetter 9 = .ok (.iconst 1, 1) := by decide +kernel
theorem dX5_isAtomLetter_10 : decode cX5_isAtomLetter 10 = .ok (.goto 4, 3) := by decide +kernel
theorem dX5_isAtomLetter_13 : decode cX5_isAtomLetter 13 = .ok (.iconst 0, 1) := by decide +kernel
theorem dX5_isAtomLetter_14 : decode cX5_isAtomLetter 14 = .ok (.ireturn, 1) := by decide +kernel
theorem dX5_scanAtom_0 : decode cX5_scanAtom 0 = .ok (.aload_n 0, 1) := by decide +kernel
theorem dX5_scanAtom_1 : decode cX5_scanAtom 1 = .ok (.iconst 1, 1) := by decide +kernel
theorem dX5_scanAtom_2 : decode cX5_scanAtom 2 = .ok (.putfield 84, 3) := by decide +kernel
theorem dX5_scanAtom_5 : decode cX5_scanAtom 5 = .ok (.aload_n 0, 1) := by decide +kernel
theorem dX5_scanAtom_6 : decode cX5_scanAtom 6 = .ok (.lconst 0, 1) := by decide +kernel
theorem dX5_scanAtom_7 : decode cX5_scanAtom 7 = .ok (.putfield 88, 3) := by decide +kernel
theorem dX5_scanAtom_10 : decode cX5_scanAtom 10 = .ok (.aload_n 0, 1) := by decide +kernel
theorem dX5_scanAtom_11 : decode cX5_scanAtom 11 = .ok (.lconst 0, 1) := by decide +kernel
theorem dX5_scanAtom_12 : decode cX5_scanAtom 12 = .ok (.putfield 92, 3) := by decide +kernel
theorem dX5_scanAtom_15 : decode cX5_scanAtom 15 = .ok (.iload_n 1, 1) := by decide +kernel
theorem dX5_scanAtom_16 : decode cX5_scanAtom 16 = .ok (.istore_n 3, 1) := by decide +kernel
theorem dX5_scanAtom_17 : decode cX5_scanAtom 17 = .ok (.iload_n 3, 1) := by decide +kernel
theorem dX5_scanAtom_18 : decode cX5_scanAtom 18 = .ok (.iload_n 2, 1) := by decide +kernel
theorem dX5_scanAtom_19 : decode cX5_scanAtom 19 = .ok (.if_icmp .ge 110, 3) := by decide +kernel
theorem dX5_scanAtom_22 : decode cX5_scanAtom 22 = .ok (.aload_n 0, 1) := by decide +kernel
theorem dX5_scanAtom_23 : decode cX5_scanAtom 23 = .ok (.getfield 9, 3) := by decide +kernel
theorem dX5_scanAtom_26 : decode cX5_scanAtom 26 = .ok (.iload_n 3, 1) := by decide +kernel
theorem dX5_scanAtom_27 : decode cX5_scanAtom 27 = .ok (.caload, 1) := by decide +kernel
theorem dX5_scanAtom_28 : decode cX5_scanAtom 28 = .ok (.bipush 48, 2) := by decide +kernel
theorem dX5_scanAtom_30 : decode cX5_scanAtom 30 = .ok (.isub, 1) := by decide +kernel
theorem dX5_scanAtom_31 : decode cX5_scanAtom 31 = .ok (.istore 4, 2) := by decide +kernel
theorem dX5_scanAtom_33 : decode cX5_scanAtom 33 = .ok (.aload_n 0, 1) := by decide +kernel
theorem dX5_scanAtom_34 : decode cX5_scanAtom 34 = .ok (.aload_n 0, 1) := by decide +kernel
theorem dX5_scanAtom_35 : decode cX5_scanAtom 35 = .ok (.getfield 92, 3) := by decide +kernel
theorem dX5_scanAtom_38 : decode cX5_scanAtom 38 = .ok (.ldc2_w 95, 3) := by decide +kernel
theorem dX5_scanAtom_41 : decode cX5_scanAtom 41 = .ok (.lmul, 1) := by decide +kernel
theorem dX5_scanAtom_42 : decode cX5_scanAtom 42 = .ok (.ldc 76, 2) := by decide +kernel
theorem dX5_scanAtom_44 : decode cX5_scanAtom 44 = .ok (.aload_n 0, 1) := by decide +kernel
theorem dX5_scanAtom_45 : decode cX5_scanAtom 45 = .ok (.getfield 9, 3) := by decide +kernel
theorem dX5_scanAtom_48 : decode cX5_scanAtom 48 = .ok (.iload_n 3, 1) := by decide +kernel
theorem dX5_scanAtom_49 : decode cX5_scanAtom 49 = .ok (.caload, 1) := by decide +kernel
theorem dX5_scanAtom_50 : decode cX5_scanAtom 50 = .ok (.invokevirtual 78, 3) := by decide +kernel
theorem dX5_scanAtom_53 : decode cX5_scanAtom 53 = .ok (.i2l, 1) := by decide +kernel
theorem dX5_scanAtom_54 : decode cX5_scanAtom 54 = .ok (.ladd, 1) := by decide +kernel
theorem dX5_scanAtom_55 : decode cX5_scanAtom 55 = .ok (.putfield 92, 3) := by decide +kernel
theorem dX5_scanAtom_58 : decode cX5_scanAtom 58 = .ok (.iload 4, 2) := by decide +kernel
theorem dX5_scanAtom_60 : decode cX5_scanAtom 60 = .ok (.ifCond .lt 10, 3) := by decide +kernel
theorem dX5_scanAtom_63 : decode cX5_scanAtom 63 = .ok (.iload 4, 2) := by decide +kernel
theorem dX5_scanAtom_65 : decode cX5_scanAtom 65 = .ok (.bipush 9, 2) := by decide +kernel
theorem dX5_scanAtom_67 : decode cX5_scanAtom 67 = .ok (.if_icmp .le 11, 3) := by decide +kernel
theorem dX5_scanAtom_70 : decode cX5_scanAtom 70 = .ok (.aload_n 0, 1) := by decide +kernel
theorem dX5_scanAtom_71 : decode cX5_scanAtom 71 = .ok (.iconst 0, 1) := by decide +kernel
theorem dX5_scanAtom_72 : decode cX5_scanAtom 72 = .ok (.putfield 84, 3) := by decide +kernel
theorem dX5_scanAtom_75 : decode cX5_scanAtom 75 = .ok (.goto 48, 3) := by decide +kernel
theorem dX5_scanAtom_78 : decode cX5_scanAtom 78 = .ok (.aload_n 0, 1) := by decide +kernel
theorem dX5_scanAtom_79 : decode cX5_scanAtom 79 = .ok (.getfield 88, 3) := by decide +kernel
theorem dX5_scanAtom_82 : decode cX5_scanAtom 82 = .ok (.ldc2_w 97, 3) := by decide +kernel
theorem dX5_scanAtom_85 : decode cX5_scanAtom 85 = .ok (.iload 4, 2) := by decide +kernel
theorem dX5_scanAtom_87 : decode cX5_scanAtom 87 = .ok (.i2l, 1) := by decide +kernel
theorem dX5_scanAtom_88 : decode cX5_scanAtom 88 = .ok (.lsub, 1) := by decide +kernel
theorem dX5_scanAtom_89 : decode cX5_scanAtom 89 = .ok (.ldc2_w 99, 3) := by decide +kernel
theorem dX5_scanAtom_92 : decode cX5_scanAtom 92 = .ok (.ldiv, 1) := by decide +kernel
theorem dX5_scanAtom_93 : decode cX5_scanAtom 93 = .ok (.lcmp, 1) := by decide +kernel
theorem dX5_scanAtom_94 : decode cX5_scanAtom 94 = .ok (.ifCond .le 13, 3) := by decide +kernel
theorem dX5_scanAtom_97 : decode cX5_scanAtom 97 = .ok (.aload_n 0, 1) := by decide +kernel
theorem dX5_scanAtom_98 : decode cX5_scanAtom 98 = .ok (.ldc2_w 101, 3) := by decide +kernel
theorem dX5_scanAtom_101 : decode cX5_scanAtom 101 = .ok (.putfield 88, 3) := by decide +kernel
theorem dX5_scanAtom_104 : decode cX5_scanAtom 104 = .ok (.goto 19, 3) := by decide +kernel
theorem dX5_scanAtom_107 : decode cX5_scanAtom 107 = .ok (.aload_n 0, 1) := by decide +kernel
theorem dX5_scanAtom_108 : decode cX5_scanAtom 108 = .ok (.aload_n 0, 1) := by decide +kernel
theorem dX5_scanAtom_109 : decode cX5_scanAtom 109 = .ok (.getfield 88, 3) := by decide +kernel
theorem dX5_scanAtom_112 : decode cX5_scanAtom 112 = .ok (.ldc2_w 99, 3) := by decide +kernel
theorem dX5_scanAtom_115 : decode cX5_scanAtom 115 = .ok (.lmul, 1) := by decide +kernel
theorem dX5_scanAtom_116 : decode cX5_scanAtom 116 = .ok (.iload 4, 2) := by decide +kernel
theorem dX5_scanAtom_118 : decode cX5_scanAtom 118 = .ok (.i2l, 1) := by decide +kernel
theorem dX5_scanAtom_119 : decode cX5_scanAtom 119 = .ok (.ladd, 1) := by decide +kernel
theorem dX5_scanAtom_120 : decode cX5_scanAtom 120 = .ok (.putfield 88, 3) := by decide +kernel
theorem dX5_scanAtom_123 : decode cX5_scanAtom 123 = .ok (.iinc 3 1, 3) := by decide +kernel
theorem dX5_scanAtom_126 : decode cX5_scanAtom 126 = .ok (.goto (-109), 3) := by decide +kernel
theorem dX5_scanAtom_129 : decode cX5_scanAtom 129 = .ok (.aload_n 0, 1) := by decide +kernel
theorem dX5_scanAtom_130 : decode cX5_scanAtom 130 = .ok (.getfield 84, 3) := by decide +kernel
theorem dX5_scanAtom_133 : decode cX5_scanAtom 133 = .ok (.ifCond .eq 22, 3) := by decide +kernel
theorem dX5_scanAtom_136 : decode cX5_scanAtom 136 = .ok (.aload_n 0, 1) := by decide +kernel
theorem dX5_scanAtom_137 : decode cX5_scanAtom 137 = .ok (.getfield 88, 3) := by decide +kernel
theorem dX5_scanAtom_140 : decode cX5_scanAtom 140 = .ok (.ldc2_w 97, 3) := by decide +kernel
theorem dX5_scanAtom_143 : decode cX5_scanAtom 143 = .ok (.lcmp, 1) := by decide +kernel
theorem dX5_scanAtom_144 : decode cX5_scanAtom 144 = .ok (.ifCond .gt 7, 3) := by decide +kernel
theorem dX5_scanAtom_147 : decode cX5_scanAtom 147 = .ok (.iconst 1, 1) := by decide +kernel
theorem dX5_scanAtom_148 : decode cX5_scanAtom 148 = .ok (.goto 20, 3) := by decide +kernel
theorem dX5_scanAtom_151 : decode cX5_scanAtom 151 = .ok (.iconst 0, 1) := by decide +kernel
theorem dX5_scanAtom_152 : decode cX5_scanAtom 152 = .ok (.goto 16, 3) := by decide +kernel
theorem dX5_scanAtom_155 : decode cX5_scanAtom 155 = .ok (.iload_n 2, 1) := by decide +kernel
theorem dX5_scanAtom_156 : decode cX5_scanAtom 156 = .ok (.iload_n 1, 1) := by decide +kernel
theorem dX5_scanAtom_157 : decode cX5_scanAtom 157 = .ok (.isub, 1) := by decide +kernel
theorem dX5_scanAtom_158 : decode cX5_scanAtom 158 = .ok (.bipush 11, 2) := by decide +kernel
theorem dX5_scanAtom_160 : decode cX5_scanAtom 160 = .ok (.if_icmp .gt 7, 3) := by decide +kernel
theorem dX5_scanAtom_163 : decode cX5_scanAtom 163 = .ok (.iconst 1, 1) := by decide +kernel
theorem dX5_scanAtom_164 : decode cX5_scanAtom 164 = .ok (.goto 4, 3) := by decide +kernel
theorem dX5_scanAtom_167 : decode cX5_scanAtom 167 = .ok (.iconst 0, 1) := by decide +kernel
theorem dX5_scanAtom_168 : decode cX5_scanAtom 168 = .ok (.ireturn, 1) := by decide +kernel
theorem dX5_mayStand_0 : decode cX5_mayStand 0 = .ok (.aload_n 0, 1) := by decide +kernel
theorem dX5_mayStand_1 : decode cX5_mayStand 1 = .ok (.getfield 26, 3) := by decide +kernel
theorem dX5_mayStand_4 : decode cX5_mayStand 4 = .ok (.aload_n 0, 1) := by decide +kernel
theorem dX5_mayStand_5 : decode cX5_mayStand 5 = .ok (.getfield 42, 3) := by decide +kernel
theorem dX5_mayStand_8 : decode cX5_mayStand 8 = .ok (.iaload, 1) := by decide +kernel
theorem dX5_mayStand_9 : decode cX5_mayStand 9 = .ok (.istore_n 2, 1) := by decide +kernel
theorem dX5_mayStand_10 : decode cX5_mayStand 10 = .ok (.iload_n 1, 1) := by decide +kernel
theorem dX5_mayStand_11 : decode cX5_mayStand 11 = .ok (.bipush 41, 2) := by decide +kernel
theorem dX5_mayStand_13 : decode cX5_mayStand 13 = .ok (.if_icmp .ne 24, 3) := by decide +kernel
theorem dX5_mayStand_16 : decode cX5_mayStand 16 = .ok (.iload_n 2, 1) := by decide +kernel
theorem dX5_mayStand_17 : decode cX5_mayStand 17 = .ok (.iconst 2, 1) := by decide +kernel
theorem dX5_mayStand_18 : decode cX5_mayStand 18 = .ok (.if_icmp .eq 13, 3) := by decide +kernel
theorem dX5_mayStand_21 : decode cX5_mayStand 21 = .ok (.iload_n 2, 1) := by decide +kernel
theorem dX5_mayStand_22 : decode cX5_mayStand 22 = .ok (.iconst 3, 1) := by decide +kernel
theorem dX5_mayStand_23 : decode cX5_mayStand 23 = .ok (.if_icmp .eq 8, 3) := by decide +kernel
theorem dX5_mayStand_26 : decode cX5_mayStand 26 = .ok (.iload_n 2, 1) := by decide +kernel
theorem dX5_mayStand_27 : decode cX5_mayStand 27 = .ok (.iconst 5, 1) := by decide +kernel
theorem dX5_mayStand_28 : decode cX5_mayStand 28 = .ok (.if_icmp .ne 7, 3) := by decide +kernel
theorem dX5_mayStand_31 : decode cX5_mayStand 31 = .ok (.iconst 1, 1) := by decide +kernel
theorem dX5_mayStand_32 : decode cX5_mayStand 32 = .ok (.goto 4, 3) := by decide +kernel
theorem dX5_mayStand_35 : decode cX5_mayStand 35 = .ok (.iconst 0, 1) := by decide +kernel
theorem dX5_mayStand_36 : decode cX5_mayStand 36 = .ok (.ireturn, 1) := by decide +kernel
theorem dX5_mayStand_37 : decode cX5_mayStand 37 = .ok (.iload_n 1, 1) := by decide +kernel
theorem dX5_mayStand_38 : decode cX5_mayStand 38 = .ok (.bipush 46, 2) := by decide +kernel
theorem dX5_mayStand_40 : decode cX5_mayStand 40 = .ok (.if_icmp .ne 14, 3) := by decide +kernel
theorem dX5_mayStand_43 : decode cX5_mayStand 43 = .ok (.iload_n 2, 1) := by decide +kernel
theorem dX5_mayStand_44 : decode cX5_mayStand 44 = .ok (.iconst 3, 1) := by decide +kernel
theorem dX5_mayStand_45 : decode cX5_mayStand 45 = .ok (.if_icmp .ne 7, 3) := by decide +kernel
theorem dX5_mayStand_48 : decode cX5_mayStand 48 = .ok (.iconst 1, 1) := by decide +kernel
theorem dX5_mayStand_49 : decode cX5_mayStand 49 = .ok (.goto 4, 3) := by decide +kernel
theorem dX5_mayStand_52 : decode cX5_mayStand 52 = .ok (.iconst 0, 1) := by decide +kernel
theorem dX5_mayStand_53 : decode cX5_mayStand 53 = .ok (.ireturn, 1) := by decide +kernel
theorem dX5_mayStand_54 : decode cX5_mayStand 54 = .ok (.iload_n 2, 1) := by decide +kernel
theorem dX5_mayStand_55 : decode cX5_mayStand 55 = .ok (.iconst 5, 1) := by decide +kernel
theorem dX5_mayStand_56 : decode cX5_mayStand 56 = .ok (.if_icmp .eq 12, 3) := by decide +kernel
theorem dX5_mayStand_59 : decode cX5_mayStand 59 = .ok (.iload_n 2, 1) := by decide +kernel
theorem dX5_mayStand_60 : decode cX5_mayStand 60 = .ok (.iconst 1, 1) := by decide +kernel
theorem dX5_mayStand_61 : decode cX5_mayStand 61 = .ok (.if_icmp .eq 7, 3) := by decide +kernel
theorem dX5_mayStand_64 : decode cX5_mayStand 64 = .ok (.iconst 1, 1) := by decide +kernel
theorem dX5_mayStand_65 : decode cX5_mayStand 65 = .ok (.goto 4, 3) := by decide +kernel
theorem dX5_mayStand_68 : decode cX5_mayStand 68 = .ok (.iconst 0, 1) := by decide +kernel
theorem dX5_mayStand_69 : decode cX5_mayStand 69 = .ok (.ireturn, 1) := by decide +kernel
theorem dX5_take_0 : decode cX5_take 0 = .ok (.aload_n 0, 1) := by decide +kernel
theorem dX5_take_1 : decode cX5_take 1 = .ok (.dup, 1) := by decide +kernel
theorem dX5_take_2 : decode cX5_take 2 = .ok (.getfield 45, 3) := by decide +kernel
theorem dX5_take_5 : decode cX5_take 5 = .ok (.iconst 1, 1) := by decide +kernel
theorem dX5_take_6 : decode cX5_take 6 = .ok (.iadd, 1) := by decide +kernel
theorem dX5_take_7 : decode cX5_take 7 = .ok (.putfield 45, 3) := by decide +kernel
theorem dX5_take_10 : decode cX5_take 10 = .ok (.iload_n 1, 1) := by decide +kernel
theorem dX5_take_11 : decode cX5_take 11 = .ok (.tableswitch 82 39 46 #[53, 45, 75, 82, 82, 82, 82, 62], 45) := by decide +kernel
theorem dX5_take_56 : decode cX5_take 56 = .ok (.aload_n 0, 1) := by decide +kernel
theorem dX5_take_57 : decode cX5_take 57 = .ok (.iconst 2, 1) := by decide +kernel
theorem dX5_take_58 : decode cX5_take 58 = .ok (.invokevirtual 103, 3) := by decide +kernel
theorem dX5_take_61 : decode cX5_take 61 = .ok (.goto 68, 3) := by decide +kernel
theorem dX5_take_64 : decode cX5_take 64 = .ok (.aload_n 0, 1) := by decide +kernel
theorem dX5_take_65 : decode cX5_take 65 = .ok (.bipush 6, 2) := by decide +kernel
theorem dX5_take_67 : decode cX5_take 67 = .ok (.invokevirtual 103, 3) := by decide +kernel
theorem dX5_take_70 : decode cX5_take 70 = .ok (.goto 59, 3) := by decide +kernel
theorem dX5_take_73 : decode cX5_take 73 = .ok (.aload_n 0, 1) := by decide +kernel
theorem dX5_take_74 : decode cX5_take 74 = .ok (.getfield 26, 3) := by decide +kernel
theorem dX5_take_77 : decode cX5_take 77 = .ok (.aload_n 0, 1) := by decide +kernel
theorem dX5_take_78 : decode cX5_take 78 = .ok (.getfield 42, 3) := by decide +kernel
theorem dX5_take_81 : decode cX5_take 81 = .ok (.iconst 4, 1) := by decide +kernel
theorem dX5_take_82 : decode cX5_take 82 = .ok (.iastore, 1) := by decide +kernel
theorem dX5_take_83 : decode cX5_take 83 = .ok (.goto 46, 3) := by decide +kernel
theorem dX5_take_86 : decode cX5_take 86 = .ok (.aload_n 0, 1) := by decide +kernel
theorem dX5_take_87 : decode cX5_take 87 = .ok (.invokevirtual 107, 3) := by decide +kernel
theorem dX5_take_90 : decode cX5_take 90 = .ok (.goto 39, 3) := by decide +kernel
theorem dX5_take_93 : decode cX5_take 93 = .ok (.aload_n 0, 1) := by decide +kernel
theorem dX5_take_94 : decode cX5_take 94 = .ok (.aload_n 0, 1) := by decide +kernel
theorem dX5_take_95 : decode cX5_take 95 = .ok (.getfield 84, 3) := by decide +kernel
theorem dX5_take_98 : decode cX5_take 98 = .ok (.ifCond .eq 17, 3) := by decide +kernel
theorem dX5_take_101 : decode cX5_take 101 = .ok (.aload_n 0, 1) := by decide +kernel
theorem dX5_take_102 : decode cX5_take 102 = .ok (.getfield 29, 3) := by decide +kernel
theorem dX5_take_105 : decode cX5_take 105 = .ok (.aload_n 0, 1) := by decide +kernel
theorem dX5_take_106 : decode cX5_take 106 = .ok (.getfield 88, 3) := by decide +kernel
theorem dX5_take_109 : decode cX5_take 109 = .ok (.invokevirtual 110, 3) := by decide +kernel
theorem dX5_take_112 : decode cX5_take 112 = .ok (.goto 14, 3) := by decide +kernel
theorem dX5_take_115 : decode cX5_take 115 = .ok (.aload_n 0, 1) := by decide +kernel
theorem dX5_take_116 : decode cX5_take 116 = .ok (.getfield 29, 3) := by decide +kernel
theorem dX5_take_119 : decode cX5_take 119 = .ok (.aload_n 0, 1) := by decide +kernel
theorem dX5_take_120 : decode cX5_take 120 = .ok (.getfield 92, 3) := by decide +kernel
theorem dX5_take_123 : decode cX5_take 123 = .ok (.invokevirtual 116, 3) := by decide +kernel
theorem dX5_take_126 : decode cX5_take 126 = .ok (.invokevirtual 119, 3) := by decide +kernel
theorem dX5_take_129 : decode cX5_take 129 = .ok (.return_, 1) := by decide +kernel
theorem dX5_openAt_0 : decode cX5_openAt 0 = .ok (.aload_n 0, 1) := by decide +kernel
theorem dX5_openAt_1 : decode cX5_openAt 1 = .ok (.getfield 42, 3) := by decide +kernel
theorem dX5_openAt_4 : decode cX5_openAt 4 = .ok (.bipush 40, 2) := by decide +kernel
theorem dX5_openAt_6 : decode cX5_openAt 6 = .ok (.if_icmp .ge 36, 3) := by decide +kernel
theorem dX5_openAt_9 : decode cX5_openAt 9 = .ok (.aload_n 0, 1) := by decide +kernel
theorem dX5_openAt_10 : decode cX5_openAt 10 = .ok (.dup, 1) := by decide +kernel
theorem dX5_openAt_11 : decode cX5_openAt 11 = .ok (.getfield 42, 3) := by decide +kernel
theorem dX5_openAt_14 : decode cX5_openAt 14 = .ok (.iconst 1, 1) := by decide +kernel
theorem dX5_openAt_15 : decode cX5_openAt 15 = .ok (.iadd, 1) := by decide +kernel
theorem dX5_openAt_16 : decode cX5_openAt 16 = .ok (.putfield 42, 3) := by decide +kernel
theorem dX5_openAt_19 : decode cX5_openAt 19 = .ok (.aload_n 0, 1) := by decide +kernel
theorem dX5_openAt_20 : decode cX5_openAt 20 = .ok (.getfield 26, 3) := by decide +kernel
theorem dX5_openAt_23 : decode cX5_openAt 23 = .ok (.aload_n 0, 1) := by decide +kernel
theorem dX5_openAt_24 : decode cX5_openAt 24 = .ok (.getfield 42, 3) := by decide +kernel
theorem dX5_openAt_27 : decode cX5_openAt 27 = .ok (.iload_n 1, 1) := by decide +kernel
theorem dX5_openAt_28 : decode cX5_openAt 28 = .ok (.iastore, 1) := by decide +kernel
theorem dX5_openAt_29 : decode cX5_openAt 29 = .ok (.aload_n 0, 1) := by decide +kernel
theorem dX5_openAt_30 : decode cX5_openAt 30 = .ok (.getfield 23, 3) := by decide +kernel
theorem dX5_openAt_33 : decode cX5_openAt 33 = .ok (.aload_n 0, 1) := by decide +kernel
theorem dX5_openAt_34 : decode cX5_openAt 34 = .ok (.getfield 42, 3) := by decide +kernel
theorem dX5_openAt_37 : decode cX5_openAt 37 = .ok (.aload_n 0, 1) := by decide +kernel
theorem dX5_openAt_38 : decode cX5_openAt 38 = .ok (.getfield 39, 3) := by decide +kernel
theorem dX5_openAt_41 : decode cX5_openAt 41 = .ok (.iastore, 1) := by decide +kernel
theorem dX5_openAt_42 : decode cX5_openAt 42 = .ok (.return_, 1) := by decide +kernel
theorem dX5_closeList_0 : decode cX5_closeList 0 = .ok (.iconst 0, 1) := by decide +kernel
theorem dX5_closeList_1 : decode cX5_closeList 1 = .ok (.istore_n 1, 1) := by decide +kernel
theorem dX5_closeList_2 : decode cX5_closeList 2 = .ok (.aload_n 0, 1) := by decide +kernel
theorem dX5_closeList_3 : decode cX5_closeList 3 = .ok (.getfield 26, 3) := by decide +kernel
theorem dX5_closeList_6 : decode cX5_closeList 6 = .ok (.aload_n 0, 1) := by decide +kernel
theorem dX5_closeList_7 : decode cX5_closeList 7 = .ok (.getfield 42, 3) := by decide +kernel
theorem dX5_closeList_10 : decode cX5_closeList 10 = .ok (.iaload, 1) := by decide +kernel
theorem dX5_closeList_11 : decode cX5_closeList 11 = .ok (.iconst 5, 1) := by decide +kernel
theorem dX5_closeList_12 : decode cX5_closeList 12 = .ok (.if_icmp .ne 30, 3) := by decide +kernel
theorem dX5_closeList_15 : decode cX5_closeList 15 = .ok (.aload_n 0, 1) := by decide +kernel
theorem dX5_closeList_16 : decode cX5_closeList 16 = .ok (.getfield 39, 3) := by decide +kernel
theorem dX5_closeList_19 : decode cX5_closeList 19 = .ok (.ifCond .le 23, 3) := by decide +kernel
theorem dX5_closeList_22 : decode cX5_closeList 22 = .ok (.aload_n 0, 1) := by decide +kernel
theorem dX5_closeList_23 : decode cX5_closeList 23 = .ok (.dup, 1) := by decide +kernel
theorem dX5_closeList_24 : decode cX5_closeList 24 = .ok (.getfield 39, 3) := by decide +kernel
theorem dX5_closeList_27 : decode cX5_closeList 27 = .ok (.iconst 1, 1) := by decide +kernel
theorem dX5_closeList_28 : decode cX5_closeList 28 = .ok (.isub, 1) := by decide +kernel
theorem dX5_closeList_29 : decode cX5_closeList 29 = .ok (.putfield 39, 3) := by decide +kernel
theorem dX5_closeList_32 : decode cX5_closeList 32 = .ok (.aload_n 0, 1) := by decide +kernel
theorem dX5_closeList_33 : decode cX5_closeList 33 = .ok (.getfield 19, 3) := by decide +kernel
theorem dX5_closeList_36 : decode cX5_closeList 36 = .ok (.aload_n 0, 1) := by decide +kernel
theorem dX5_closeList_37 : decode cX5_closeList 37 = .ok (.getfield 39, 3) := by decide +kernel
theorem dX5_closeList_40 : decode cX5_closeList 40 = .ok (.iaload, 1) := by decide +kernel
theorem dX5_closeList_41 : decode cX5_closeList 41 = .ok (.istore_n 1, 1) := by decide +kernel
theorem dX5_closeList_42 : decode cX5_closeList 42 = .ok (.aload_n 0, 1) := by decide +kernel
theorem dX5_closeList_43 : decode cX5_closeList 43 = .ok (.getfield 39, 3) := by decide +kernel
theorem dX5_closeList_46 : decode cX5_closeList 46 = .ok (.aload_n 0, 1) := by decide +kernel
theorem dX5_closeList_47 : decode cX5_closeList 47 = .ok (.getfield 23, 3) := by decide +kernel
theorem dX5_closeList_50 : decode cX5_closeList 50 = .ok (.aload_n 0, 1) := by decide +kernel
theorem dX5_closeList_51 : decode cX5_closeList 51 = .ok (.getfield 42, 3) := by decide +kernel
theorem dX5_closeList_54 : decode cX5_closeList 54 = .ok (.iaload, 1) := by decide +kernel
theorem dX5_closeList_55 : decode cX5_closeList 55 = .ok (.if_icmp .le 41, 3) := by decide +kernel
theorem dX5_closeList_58 : decode cX5_closeList 58 = .ok (.aload_n 0, 1) := by decide +kernel
theorem dX5_closeList_59 : decode cX5_closeList 59 = .ok (.getfield 39, 3) := by decide +kernel
theorem dX5_closeList_62 : decode cX5_closeList 62 = .ok (.ifCond .le 34, 3) := by decide +kernel
theorem dX5_closeList_65 : decode cX5_closeList 65 = .ok (.aload_n 0, 1) := by decide +kernel
theorem dX5_closeList_66 : decode cX5_closeList 66 = .ok (.dup, 1) := by decide +kernel
theorem dX5_closeList_67 : decode cX5_closeList 67 = .ok (.getfield 39, 3) := by decide +kernel
theorem dX5_closeList_70 : decode cX5_closeList 70 = .ok (.iconst 1, 1) := by decide +kernel
theorem dX5_closeList_71 : decode cX5_closeList 71 = .ok (.isub, 1) := by decide +kernel
theorem dX5_closeList_72 : decode cX5_closeList 72 = .ok (.putfield 39, 3) := by decide +kernel
theorem dX5_closeList_75 : decode cX5_closeList 75 = .ok (.aload_n 0, 1) := by decide +kernel
theorem dX5_closeList_76 : decode cX5_closeList 76 = .ok (.getfield 29, 3) := by decide +kernel
theorem dX5_closeList_79 : decode cX5_closeList 79 = .ok (.aload_n 0, 1) := by decide +kernel
theorem dX5_closeList_80 : decode cX5_closeList 80 = .ok (.getfield 19, 3) := by decide +kernel
theorem dX5_closeList_83 : decode cX5_closeList 83 = .ok (.aload_n 0, 1) := by decide +kernel
theorem dX5_closeList_84 : decode cX5_closeList 84 = .ok (.getfield 39, 3) := by decide +kernel
theorem dX5_closeList_87 : decode cX5_closeList 87 = .ok (.iaload, 1) := by decide +kernel
theorem dX5_closeList_88 : decode cX5_closeList 88 = .ok (.iload_n 1, 1) := by decide +kernel
theorem dX5_closeList_89 : decode cX5_closeList 89 = .ok (.invokevirtual 122, 3) := by decide +kernel
theorem dX5_closeList_92 : decode cX5_closeList 92 = .ok (.istore_n 1, 1) := by decide +kernel
theorem dX5_closeList_93 : decode cX5_closeList 93 = .ok (.goto (-51), 3) := by decide +kernel
theorem dX5_closeList_96 : decode cX5_closeList 96 = .ok (.aload_n 0, 1) := by decide +kernel
theorem dX5_closeList_97 : decode cX5_closeList 97 = .ok (.getfield 42, 3) := by decide +kernel
theorem dX5_closeList_100 : decode cX5_closeList 100 = .ok (.ifCond .le 13, 3) := by decide +kernel
theorem dX5_closeList_103 : decode cX5_closeList 103 = .ok (.aload_n 0, 1) := by decide +kernel
theorem dX5_closeList_104 : decode cX5_closeList 104 = .ok (.dup, 1) := by decide +kernel
theorem dX5_closeList_105 : decode cX5_closeList 105 = .ok (.getfield 42, 3) := by decide +kernel
theorem dX5_closeList_108 : decode cX5_closeList 108 = .ok (.iconst 1, 1) := by decide +kernel
theorem dX5_closeList_109 : decode cX5_closeList 109 = .ok (.isub, 1) := by decide +kernel
theorem dX5_closeList_110 : decode cX5_closeList 110 = .ok (.putfield 42, 3) := by decide +kernel
theorem dX5_closeList_113 : decode cX5_closeList 113 = .ok (.aload_n 0, 1) := by decide +kernel
theorem dX5_closeList_114 : decode cX5_closeList 114 = .ok (.iload_n 1, 1) := by decide +kernel
theorem dX5_closeList_115 : decode cX5_closeList 115 = .ok (.invokevirtual 119, 3) := by decide +kernel
theorem dX5_closeList_118 : decode cX5_closeList 118 = .ok (.return_, 1) := by decide +kernel
theorem dX5_finish_0 : decode cX5_finish 0 = .ok (.iload_n 1, 1) := by decide +kernel
theorem dX5_finish_1 : decode cX5_finish 1 = .ok (.istore_n 2, 1) := by decide +kernel
theorem dX5_finish_2 : decode cX5_finish 2 = .ok (.aload_n 0, 1) := by decide +kernel
theorem dX5_finish_3 : decode cX5_finish 3 = .ok (.getfield 42, 3) := by decide +kernel
theorem dX5_finish_6 : decode cX5_finish 6 = .ok (.ifCond .le 48, 3) := by decide +kernel
theorem dX5_finish_9 : decode cX5_finish 9 = .ok (.aload_n 0, 1) := by decide +kernel
theorem dX5_finish_10 : decode cX5_finish 10 = .ok (.getfield 26, 3) := by decide +kernel
theorem dX5_finish_13 : decode cX5_finish 13 = .ok (.aload_n 0, 1) := by decide +kernel
theorem dX5_finish_14 : decode cX5_finish 14 = .ok (.getfield 42, 3) := by decide +kernel
theorem dX5_finish_17 : decode cX5_finish 17 = .ok (.iaload, 1) := by decide +kernel
theorem dX5_finish_18 : decode cX5_finish 18 = .ok (.bipush 6, 2) := by decide +kernel
theorem dX5_finish_20 : decode cX5_finish 20 = .ok (.if_icmp .ne 34, 3) := by decide +kernel
theorem dX5_finish_23 : decode cX5_finish 23 = .ok (.aload_n 0, 1) := by decide +kernel
theorem dX5_finish_24 : decode cX5_finish 24 = .ok (.dup, 1) := by decide +kernel
theorem dX5_finish_25 : decode cX5_finish 25 = .ok (.getfield 42, 3) := by decide +kernel
theorem dX5_finish_28 : decode cX5_finish 28 = .ok (.iconst 1, 1) := by decide +kernel
theorem dX5_finish_29 : decode cX5_finish 29 = .ok (.isub, 1) := by decide +kernel
theorem dX5_finish_30 : decode cX5_finish 30 = .ok (.putfield 42, 3) := by decide +kernel
theorem dX5_finish_33 : decode cX5_finish 33 = .ok (.aload_n 0, 1) := by decide +kernel
theorem dX5_finish_34 : decode cX5_finish 34 = .ok (.getfield 29, 3) := by decide +kernel
theorem dX5_finish_37 : decode cX5_finish 37 = .ok (.iconst 2, 1) := by decide +kernel
theorem dX5_finish_38 : decode cX5_finish 38 = .ok (.aload_n 0, 1) := by decide +kernel
theorem dX5_finish_39 : decode cX5_finish 39 = .ok (.getfield 29, 3) := by decide +kernel
theorem dX5_finish_42 : decode cX5_finish 42 = .ok (.iload_n 2, 1) := by decide +kernel
theorem dX5_finish_43 : decode cX5_finish 43 = .ok (.iconst 0, 1) := by decide +kernel
theorem dX5_finish_44 : decode cX5_finish 44 = .ok (.invokevirtual 122, 3) := by decide +kernel
theorem dX5_finish_47 : decode cX5_finish 47 = .ok (.invokevirtual 122, 3) := by decide +kernel
theorem dX5_finish_50 : decode cX5_finish 50 = .ok (.istore_n 2, 1) := by decide +kernel
theorem dX5_finish_51 : decode cX5_finish 51 = .ok (.goto (-49), 3) := by decide +kernel
theorem dX5_finish_54 : decode cX5_finish 54 = .ok (.aload_n 0, 1) := by decide +kernel
theorem dX5_finish_55 : decode cX5_finish 55 = .ok (.getfield 39, 3) := by decide +kernel
theorem dX5_finish_58 : decode cX5_finish 58 = .ok (.sipush 1000, 3) := by decide +kernel
theorem dX5_finish_61 : decode cX5_finish 61 = .ok (.if_icmp .ge 23, 3) := by decide +kernel
theorem dX5_finish_64 : decode cX5_finish 64 = .ok (.aload_n 0, 1) := by decide +kernel
theorem dX5_finish_65 : decode cX5_finish 65 = .ok (.getfield 19, 3) := by decide +kernel
theorem dX5_finish_68 : decode cX5_finish 68 = .ok (.aload_n 0, 1) := by decide +kernel
theorem dX5_finish_69 : decode cX5_finish 69 = .ok (.getfield 39, 3) := by decide +kernel
theorem dX5_finish_72 : decode cX5_finish 72 = .ok (.iload_n 2, 1) := by decide +kernel
theorem dX5_finish_73 : decode cX5_finish 73 = .ok (.iastore, 1) := by decide +kernel
theorem dX5_finish_74 : decode cX5_finish 74 = .ok (.aload_n 0, 1) := by decide +kernel
theorem dX5_finish_75 : decode cX5_finish 75 = .ok (.dup, 1) := by decide +kernel
theorem dX5_finish_76 : decode cX5_finish 76 = .ok (.getfield 39, 3) := by decide +kernel
theorem dX5_finish_79 : decode cX5_finish 79 = .ok (.iconst 1, 1) := by decide +kernel
theorem dX5_finish_80 : decode cX5_finish 80 = .ok (.iadd, 1) := by decide +kernel
theorem dX5_finish_81 : decode cX5_finish 81 = .ok (.putfield 39, 3) := by decide +kernel
theorem dX5_finish_84 : decode cX5_finish 84 = .ok (.aload_n 0, 1) := by decide +kernel
theorem dX5_finish_85 : decode cX5_finish 85 = .ok (.getfield 26, 3) := by decide +kernel
theorem dX5_finish_88 : decode cX5_finish 88 = .ok (.aload_n 0, 1) := by decide +kernel
theorem dX5_finish_89 : decode cX5_finish 89 = .ok (.getfield 42, 3) := by decide +kernel
theorem dX5_finish_92 : decode cX5_finish 92 = .ok (.iaload, 1) := by decide +kernel
theorem dX5_finish_93 : decode cX5_finish 93 = .ok (.ifCond .ne 16, 3) := by decide +kernel
theorem dX5_finish_96 : decode cX5_finish 96 = .ok (.aload_n 0, 1) := by decide +kernel
theorem dX5_finish_97 : decode cX5_finish 97 = .ok (.getfield 26, 3) := by decide +kernel
theorem dX5_finish_100 : decode cX5_finish 100 = .ok (.aload_n 0, 1) := by decide +kernel
theorem dX5_finish_101 : decode cX5_finish 101 = .ok (.getfield 42, 3) := by decide +kernel
theorem dX5_finish_104 : decode cX5_finish 104 = .ok (.iconst 1, 1) := by decide +kernel
theorem dX5_finish_105 : decode cX5_finish 105 = .ok (.iastore, 1) := by decide +kernel
theorem dX5_finish_106 : decode cX5_finish 106 = .ok (.goto 30, 3) := by decide +kernel
theorem dX5_finish_109 : decode cX5_finish 109 = .ok (.aload_n 0, 1) := by decide +kernel
theorem dX5_finish_110 : decode cX5_finish 110 = .ok (.getfield 26, 3) := by decide +kernel
theorem dX5_finish_113 : decode cX5_finish 113 = .ok (.aload_n 0, 1) := by decide +kernel
theorem dX5_finish_114 : decode cX5_finish 114 = .ok (.getfield 42, 3) := by decide +kernel
theorem dX5_finish_117 : decode cX5_finish 117 = .ok (.aload_n 0, 1) := by decide +kernel
theorem dX5_finish_118 : decode cX5_finish 118 = .ok (.getfield 26, 3) := by decide +kernel
theorem dX5_finish_121 : decode cX5_finish 121 = .ok (.aload_n 0, 1) := by decide +kernel
theorem dX5_finish_122 : decode cX5_finish 122 = .ok (.getfield 42, 3) := by decide +kernel
theorem dX5_finish_125 : decode cX5_finish 125 = .ok (.iaload, 1) := by decide +kernel
theorem dX5_finish_126 : decode cX5_finish 126 = .ok (.iconst 4, 1) := by decide +kernel
theorem dX5_finish_127 : decode cX5_finish 127 = .ok (.if_icmp .ne 7, 3) := by decide +kernel
theorem dX5_finish_130 : decode cX5_finish 130 = .ok (.iconst 5, 1) := by decide +kernel
theorem dX5_finish_131 : decode cX5_finish 131 = .ok (.goto 4, 3) := by decide +kernel
theorem dX5_finish_134 : decode cX5_finish 134 = .ok (.iconst 3, 1) := by decide +kernel
theorem dX5_finish_135 : decode cX5_finish 135 = .ok (.iastore, 1) := by decide +kernel
theorem dX5_finish_136 : decode cX5_finish 136 = .ok (.return_, 1) := by decide +kernel
theorem dX6_init_0 : decode cX6_init 0 = .ok (.aload_n 0, 1) := by decide +kernel
theorem dX6_init_1 : decode cX6_init 1 = .ok (.invokespecial 3, 3) := by decide +kernel
theorem dX6_init_4 : decode cX6_init 4 = .ok (.aload_n 0, 1) := by decide +kernel
theorem dX6_init_5 : decode cX6_init 5 = .ok (.sipush 2048, 3) := by decide +kernel
theorem dX6_init_8 : decode cX6_init 8 = .ok (.newarray .long, 2) := by decide +kernel
theorem dX6_init_10 : decode cX6_init 10 = .ok (.putfield 11, 3) := by decide +kernel
theorem dX6_init_13 : decode cX6_init 13 = .ok (.aload_n 0, 1) := by decide +kernel
theorem dX6_init_14 : decode cX6_init 14 = .ok (.sipush 2048, 3) := by decide +kernel
theorem dX6_init_17 : decode cX6_init 17 = .ok (.newarray .int, 2) := by decide +kernel
theorem dX6_init_19 : decode cX6_init 19 = .ok (.putfield 15, 3) := by decide +kernel
theorem dX6_init_22 : decode cX6_init 22 = .ok (.aload_n 0, 1) := by decide +kernel
theorem dX6_init_23 : decode cX6_init 23 = .ok (.sipush 2048, 3) := by decide +kernel
theorem dX6_init_26 : decode cX6_init 26 = .ok (.newarray .int, 2) := by decide +kernel
theorem dX6_init_28 : decode cX6_init 28 = .ok (.putfield 19, 3) := by decide +kernel
theorem dX6_init_31 : decode cX6_init 31 = .ok (.aload_n 0, 1) := by decide +kernel
theorem dX6_init_32 : decode cX6_init 32 = .ok (.sipush 2048, 3) := by decide +kernel
theorem dX6_init_35 : decode cX6_init 35 = .ok (.newarray .int, 2) := by decide +kernel
theorem dX6_init_37 : decode cX6_init 37 = .ok (.putfield 22, 3) := by decide +kernel
theorem dX6_init_40 : decode cX6_init 40 = .ok (.aload_n 0, 1) := by decide +kernel
theorem dX6_init_41 : decode cX6_init 41 = .ok (.sipush 1024, 3) := by decide +kernel
theorem dX6_init_44 : decode cX6_init 44 = .ok (.newarray .int, 2) := by decide +kernel
theorem dX6_init_46 : decode cX6_init 46 = .ok (.putfield 25, 3) := by decide +kernel
theorem dX6_init_49 : decode cX6_init 49 = .ok (.aload_n 0, 1) := by decide +kernel
theorem dX6_init_50 : decode cX6_init 50 = .ok (.getfield 25, 3) := by decide +kernel
theorem dX6_init_53 : decode cX6_init 53 = .ok (.iconst (-1), 1) := by decide +kernel
theorem dX6_init_54 : decode cX6_init 54 = .ok (.invokestatic 28, 3) := by decide +kernel
theorem dX6_init_57 : decode cX6_init 57 = .ok (.lconst 0, 1) := by decide +kernel
theorem dX6_init_58 : decode cX6_init 58 = .ok (.lstore_n 1, 1) := by decide +kernel
theorem dX6_init_59 : decode cX6_init 59 = .ok (.iconst 0, 1) := by decide +kernel
theorem dX6_init_60 : decode cX6_init 60 = .ok (.istore_n 3, 1) := by decide +kernel
theorem dX6_init_61 : decode cX6_init 61 = .ok (.iload_n 3, 1) := by decide +kernel
theorem dX6_init_62 : decode cX6_init 62 = .ok (.ldc 34, 2) := by decide +kernel
theorem dX6_init_64 : decode cX6_init 64 = .ok (.invokevirtual 36, 3) := by decide +kernel
theorem dX6_init_67 : decode cX6_init 67 = .ok (.if_icmp .ge 51, 3) := by decide +kernel
theorem dX6_init_70 : decode cX6_init 70 = .ok (.ldc 42, 2) := by decide +kernel
theorem dX6_init_72 : decode cX6_init 72 = .ok (.ldc 34, 2) := by decide +kernel
theorem dX6_init_74 : decode cX6_init 74 = .ok (.iload_n 3, 1) := by decide +kernel
theorem dX6_init_75 : decode cX6_init 75 = .ok (.invokevirtual 44, 3) := by decide +kernel
theorem dX6_init_78 : decode cX6_init 78 = .ok (.invokevirtual 48, 3) := by decide +kernel
theorem dX6_init_81 : decode cX6_init 81 = .ok (.istore 4, 2) := by decide +kernel
theorem dX6_init_83 : decode cX6_init 83 = .ok (.iload 4, 2) := by decide +kernel
theorem dX6_init_85 : decode cX6_init 85 = .ok (.ifCond .le 16, 3) := by decide +kernel
theorem dX6_init_88 : decode cX6_init 88 = .ok (.lload_n 1, 1) := by decide +kernel
theorem dX6_init_89 : decode cX6_init 89 = .ok (.ldc2_w 52, 3) := by decide +kernel
theorem dX6_init_92 : decode cX6_init 92 = .ok (.lmul, 1) := by decide +kernel
theorem dX6_init_93 : decode cX6_init 93 = .ok (.iload 4, 2) := by decide +kernel
theorem dX6_init_95 : decode cX6_init 95 = .ok (.i2l, 1) := by decide +kernel
theorem dX6_init_96 : decode cX6_init 96 = .ok (.ladd, 1) := by decide +kernel
theorem dX6_init_97 : decode cX6_init 97 = .ok (.lstore_n 1, 1) := by decide +kernel
theorem dX6_init_98 : decode cX6_init 98 = .ok (.goto 14, 3) := by decide +kernel
theorem dX6_init_101 : decode cX6_init 101 = .ok (.aload_n 0, 1) := by decide +kernel
theorem dX6_init_102 : decode cX6_init 102 = .ok (.lload_n 1, 1) := by decide +kernel
theorem dX6_init_103 : decode cX6_init 103 = .ok (.bipush (-2), 2) := by decide +kernel
theorem dX6_init_105 : decode cX6_init 105 = .ok (.iconst 0, 1) := by decide +kernel
theorem dX6_init_106 : decode cX6_init 106 = .ok (.invokevirtual 54, 3) := by decide +kernel
theorem dX6_init_109 : decode cX6_init 109 = .ok (.pop, 1) := by decide +kernel
theorem dX6_init_110 : decode cX6_init 110 = .ok (.lconst 0, 1) := by decide +kernel
theorem dX6_init_111 : decode cX6_init 111 = .ok (.lstore_n 1, 1) := by decide +kernel
theorem dX6_init_112 : decode cX6_init 112 = .ok (.iinc 3 1, 3) := by decide +kernel
theorem dX6_init_115 : decode cX6_init 115 = .ok (.goto (-54), 3) := by decide +kernel
theorem dX6_init_118 : decode cX6_init 118 = .ok (.return_, 1) := by decide +kernel
theorem dX6_natural_0 : decode cX6_natural 0 = .ok (.aload_n 0, 1) := by decide +kernel
theorem dX6_natural_1 : decode cX6_natural 1 = .ok (.lload_n 1, 1) := by decide +kernel
theorem dX6_natural_2 : decode cX6_natural 2 = .ok (.iconst (-1), 1) := by decide +kernel
theorem dX6_natural_3 : decode cX6_natural 3 = .ok (.iconst 0, 1) := by decide +kernel
theorem dX6_natural_4 : decode cX6_natural 4 = .ok (.invokevirtual 54, 3) := by decide +kernel
theorem dX6_natural_7 : decode cX6_natural 7 = .ok (.ireturn, 1) := by decide +kernel
theorem dX6_symbol_0 : decode cX6_symbol 0 = .ok (.aload_n 0, 1) := by decide +kernel
theorem dX6_symbol_1 : decode cX6_symbol 1 = .ok (.lload_n 1, 1) := by decide +kernel
theorem dX6_symbol_2 : decode cX6_symbol 2 = .ok (.bipush (-2), 2) := by decide +kernel
theorem dX6_symbol_4 : decode cX6_symbol 4 = .ok (.iconst 0, 1) := by decide +kernel
theorem dX6_symbol_5 : decode cX6_symbol 5 = .ok (.invokevirtual 54, 3) := by decide +kernel
theorem dX6_symbol_8 : decode cX6_symbol 8 = .ok (.ireturn, 1) := by decide +kernel
theorem dX6_pair_0 : decode cX6_pair 0 = .ok (.aload_n 0, 1) := by decide +kernel
theorem dX6_pair_1 : decode cX6_pair 1 = .ok (.iload_n 1, 1) := by decide +kernel
theorem dX6_pair_2 : decode cX6_pair 2 = .ok (.i2l, 1) := by decide +kernel
theorem dX6_pair_3 : decode cX6_pair 3 = .ok (.iload_n 2, 1) := by decide +kernel
theorem dX6_pair_4 : decode cX6_pair 4 = .ok (.aload_n 0, 1) := by decide +kernel
theorem dX6_pair_5 : decode cX6_pair 5 = .ok (.iload_n 1, 1) := by decide +kernel
theorem dX6_pair_6 : decode cX6_pair 6 = .ok (.invokevirtual 58, 3) := by decide +kernel
theorem dX6_pair_9 : decode cX6_pair 9 = .ok (.aload_n 0, 1) := by decide +kernel
theorem dX6_pair_10 : decode cX6_pair 10 = .ok (.iload_n 2, 1) := by decide +kernel
theorem dX6_pair_11 : decode cX6_pair 11 = .ok (.invokevirtual 58, 3) := by decide +kernel
theorem dX6_pair_14 : decode cX6_pair 14 = .ok (.invokestatic 61, 3) := by decide +kernel
theorem dX6_pair_17 : decode cX6_pair 17 = .ok (.iconst 1, 1) := by decide +kernel
theorem dX6_pair_18 : decode cX6_pair 18 = .ok (.iadd, 1) := by decide +kernel
theorem dX6_pair_19 : decode cX6_pair 19 = .ok (.invokevirtual 54, 3) := by decide +kernel
theorem dX6_pair_22 : decode cX6_pair 22 = .ok (.ireturn, 1) := by decide +kernel
theorem dX6_isPair_0 : decode cX6_isPair 0 = .ok (.iload_n 1, 1) := by decide +kernel
theorem dX6_isPair_1 : decode cX6_isPair 1 = .ok (.ifCond .lt 24, 3) := by decide +kernel
theorem dX6_isPair_4 : decode cX6_isPair 4 = .ok (.iload_n 1, 1) := by decide +kernel
theorem dX6_isPair_5 : decode cX6_isPair 5 = .ok (.aload_n 0, 1) := by decide +kernel
theorem dX6_isPair_6 : decode cX6_isPair 6 = .ok (.getfield 67, 3) := by decide +kernel
theorem dX6_isPair_9 : decode cX6_isPair 9 = .ok (.if_icmp .ge 16, 3) := by decide +kernel
theorem dX6_isPair_12 : decode cX6_isPair 12 = .ok (.aload_n 0, 1) := by decide +kernel
theorem dX6_isPair_13 : decode cX6_isPair 13 = .ok (.getfield 15, 3) := by decide +kernel
theorem dX6_isPair_16 : decode cX6_isPair 16 = .ok (.iload_n 1, 1) := by decide +kernel
theorem dX6_isPair_17 : decode cX6_isPair 17 = .ok (.iaload, 1) := by decide +kernel
theorem dX6_isPair_18 : decode cX6_isPair 18 = .ok (.ifCond .lt 7, 3) := by decide +kernel
theorem dX6_isPair_21 : decode cX6_isPair 21 = .ok (.iconst 1, 1) := by decide +kernel
theorem dX6_isPair_22 : decode cX6_isPair 22 = .ok (.goto 4, 3) := by decide +kernel
theorem dX6_isPair_25 : decode cX6_isPair 25 = .ok (.iconst 0, 1) := by decide +kernel
theorem dX6_isPair_26 : decode cX6_isPair 26 = .ok (.ireturn, 1) := by decide +kernel
theorem dX6_isNatural_0 : decode cX6_isNatural 0 = .ok (.iload_n 1, 1) := by decide +kernel
theorem dX6_isNatural_1 : decode cX6_isNatural 1 = .ok (.ifCond .lt 25, 3) := by decide +kernel
theorem dX6_isNatural_4 : decode cX6_isNatural 4 = .ok (.iload_n 1, 1) := by decide +kernel
theorem dX6_isNatural_5 : decode cX6_isNatural 5 = .ok (.aload_n 0, 1) := by decide +kernel
theorem dX6_isNatural_6 : decode cX6_isNatural 6 = .ok (.getfield 67, 3) := by decide +kernel
theorem dX6_isNatural_9 : decode cX6_isNatural 9 = .ok (.if_icmp .ge 17, 3) := by decide +kernel
theorem dX6_isNatural_12 : decode cX6_isNatural 12 = .ok (.aload_n 0, 1) := by decide +kernel
theorem dX6_isNatural_13 : decode cX6_isNatural 13 = .ok (.getfield 15, 3) := by decide +kernel
theorem dX6_isNatural_16 : decode cX6_isNatural 16 = .ok (.iload_n 1, 1) := by decide +kernel
theorem dX6_isNatural_17 : decode cX6_isNatural 17 = .ok (.iaload, 1) := by decide +kernel
theorem dX6_isNatural_18 : decode cX6_isNatural 18 = .ok (.iconst (-1), 1) := by decide +kernel
theorem dX6_isNatural_19 : decode cX6_isNatural 19 = .ok (.if_icmp .ne 7, 3) := by decide +kernel
theorem dX6_isNatural_22 : decode cX6_isNatural 22 = .ok (.iconst 1, 1) := by decide +kernel
theorem dX6_isNatural_23 : decode cX6_isNatural 23 = .ok (.goto 4, 3) := by decide +kernel
theorem dX6_isNatural_26 : decode cX6_isNatural 26 = .ok (.iconst 0, 1) := by decide +kernel
theorem dX6_isNatural_27 : decode cX6_isNatural 27 = .ok (.ireturn, 1) := by decide +kernel
theorem dX6_isSymbol_0 : decode cX6_isSymbol 0 = .ok (.iload_n 1, 1) := by decide +kernel
theorem dX6_isSymbol_1 : decode cX6_isSymbol 1 = .ok (.ifCond .lt 26, 3) := by decide +kernel
theorem dX6_isSymbol_4 : decode cX6_isSymbol 4 = .ok (.iload_n 1, 1) := by decide +kernel
theorem dX6_isSymbol_5 : decode cX6_isSymbol 5 = .ok (.aload_n 0, 1) := by decide +kernel
theorem dX6_isSymbol_6 : decode cX6_isSymbol 6 = .ok (.getfield 67, 3) := by decide +kernel
theorem dX6_isSymbol_9 : decode cX6_isSymbol 9 = .ok (.if_icmp .ge 18, 3) := by decide +kernel
theorem dX6_isSymbol_12 : decode cX6_isSymbol 12 = .ok (.aload_n 0, 1) := by decide +kernel
theorem dX6_isSymbol_13 : decode cX6_isSymbol 13 = .ok (.getfield 15, 3) := by decide +kernel
theorem dX6_isSymbol_16 : decode cX6_isSymbol 16 = .ok (.iload_n 1, 1) := by decide +kernel
theorem dX6_isSymbol_17 : decode cX6_isSymbol 17 = .ok (.iaload, 1) := by decide +kernel
theorem dX6_isSymbol_18 : decode cX6_isSymbol 18 = .ok (.bipush (-2), 2) := by decide +kernel
theorem dX6_isSymbol_20 : decode cX6_isSymbol 20 = .ok (.if_icmp .ne 7, 3) := by decide +kernel
theorem dX6_isSymbol_23 : decode cX6_isSymbol 23 = .ok (.iconst 1, 1) := by decide +kernel
theorem dX6_isSymbol_24 : decode cX6_isSymbol 24 = .ok (.goto 4, 3) := by decide +kernel
theorem dX6_isSymbol_27 : decode cX6_isSymbol 27 = .ok (.iconst 0, 1) := by decide +kernel
theorem dX6_isSymbol_28 : decode cX6_isSymbol 28 = .ok (.ireturn, 1) := by decide +kernel
theorem dX6_isVariable_0 : decode cX6_isVariable 0 = .ok (.aload_n 0, 1) := by decide +kernel
theorem dX6_isVariable_1 : decode cX6_isVariable 1 = .ok (.iload_n 1, 1) := by decide +kernel
theorem dX6_isVariable_2 : decode cX6_isVariable 2 = .ok (.invokevirtual 71, 3) := by decide +kernel
theorem dX6_isVariable_5 : decode cX6_isVariable 5 = .ok (.ifCond .eq 16, 3) := by decide +kernel
theorem dX6_isVariable_8 : decode cX6_isVariable 8 = .ok (.iload_n 1, 1) := by decide +kernel
theorem dX6_isVariable_9 : decode cX6_isVariable 9 = .ok (.ifCond .eq 12, 3) := by decide +kernel
theorem dX6_isVariable_12 : decode cX6_isVariable 12 = .ok (.iload_n 1, 1) := by decide +kernel
theorem dX6_isVariable_13 : decode cX6_isVariable 13 = .ok (.iconst 1, 1) := by decide +kernel
theorem dX6_isVariable_14 : decode cX6_isVariable 14 = .ok (.if_icmp .eq 7, 3) := by decide +kernel
theorem dX6_isVariable_17 : decode cX6_isVariable 17 = .ok (.iconst 1, 1) := by decide +kernel
theorem dX6_isVariable_18 : decode cX6_isVariable 18 = .ok (.goto 4, 3) := by decide +kernel
theorem dX6_isVariable_21 : decode cX6_isVariable 21 = .ok (.iconst 0, 1) := by decide +kernel
theorem dX6_isVariable_22 : decode cX6_isVariable 22 = .ok (.ireturn, 1) := by decide +kernel
theorem dX6_isQuoted_0 : decode cX6_isQuoted 0 = .ok (.aload_n 0, 1) := by decide +kernel
theorem dX6_isQuoted_1 : decode cX6_isQuoted 1 = .ok (.iload_n 1, 1) := by decide +kernel
theorem dX6_isQuoted_2 : decode cX6_isQuoted 2 = .ok (.invokevirtual 75, 3) := by decide +kernel
theorem dX6_isQuoted_5 : decode cX6_isQuoted 5 = .ok (.iconst 2, 1) := by decide +kernel
theorem dX6_isQuoted_6 : decode cX6_isQuoted 6 = .ok (.if_icmp .ne 31, 3) := by decide +kernel
theorem dX6_isQuoted_9 : decode cX6_isQuoted 9 = .ok (.aload_n 0, 1) := by decide +kernel
theorem dX6_isQuoted_10 : decode cX6_isQuoted 10 = .ok (.aload_n 0, 1) := by decide +kernel
theorem dX6_isQuoted_11 : decode cX6_isQuoted 11 = .ok (.iload_n 1, 1) := by decide +kernel
theorem dX6_isQuoted_12 : decode cX6_isQuoted 12 = .ok (.invokevirtual 78, 3) := by decide +kernel
theorem dX6_isQuoted_15 : decode cX6_isQuoted 15 = .ok (.invokevirtual 81, 3) := by decide +kernel
theorem dX6_isQuoted_18 : decode cX6_isQuoted 18 = .ok (.ifCond .eq 19, 3) := by decide +kernel
theorem dX6_isQuoted_21 : decode cX6_isQuoted 21 = .ok (.aload_n 0, 1) := by decide +kernel
theorem dX6_isQuoted_22 : decode cX6_isQuoted 22 = .ok (.aload_n 0, 1) := by decide +kernel
theorem dX6_isQuoted_23 : decode cX6_isQuoted 23 = .ok (.iload_n 1, 1) := by decide +kernel
theorem dX6_isQuoted_24 : decode cX6_isQuoted 24 = .ok (.invokevirtual 78, 3) := by decide +kernel
theorem dX6_isQuoted_27 : decode cX6_isQuoted 27 = .ok (.invokevirtual 78, 3) := by decide +kernel
theorem dX6_isQuoted_30 : decode cX6_isQuoted 30 = .ok (.ifCond .ne 7, 3) := by decide +kernel
theorem dX6_isQuoted_33 : decode cX6_isQuoted 33 = .ok (.iconst 1, 1) := by decide +kernel
theorem dX6_isQuoted_34 : decode cX6_isQuoted 34 = .ok (.goto 4, 3) := by decide +kernel
theorem dX6_isQuoted_37 : decode cX6_isQuoted 37 = .ok (.iconst 0, 1) := by decide +kernel
theorem dX6_isQuoted_38 : decode cX6_isQuoted 38 = .ok (.ireturn, 1) := by decide +kernel
theorem dX6_head_0 : decode cX6_head 0 = .ok (.aload_n 0, 1) := by decide +kernel
theorem dX6_head_1 : decode cX6_head 1 = .ok (.iload_n 1, 1) := by decide +kernel
theorem dX6_head_2 : decode cX6_head 2 = .ok (.invokevirtual 81, 3) := by decide +kernel
theorem dX6_head_5 : decode cX6_head 5 = .ok (.ifCond .eq 13, 3) := by decide +kernel
theorem dX6_head_8 : decode cX6_head 8 = .ok (.aload_n 0, 1) := by decide +kernel
theorem dX6_head_9 : decode cX6_head 9 = .ok (.getfield 11, 3) := by decide +kernel
theorem dX6_head_12 : decode cX6_head 12 = .ok (.iload_n 1, 1) := by decide +kernel
theorem dX6_head_13 : decode cX6_head 13 = .ok (.laload, 1) := by decide +kernel
theorem dX6_head_14 : decode cX6_head 14 = .ok (.l2i, 1) := by decide +kernel
theorem dX6_head_15 : decode cX6_head 15 = .ok (.goto 4, 3) := by decide +kernel
theorem dX6_head_18 : decode cX6_head 18 = .ok (.iconst 0, 1) := by decide +kernel
theorem dX6_head_19 : decode cX6_head 19 = .ok (.ireturn, 1) := by decide +kernel
theorem dX6_tail_0 : decode cX6_tail 0 = .ok (.aload_n 0, 1) := by decide +kernel
theorem dX6_tail_1 : decode cX6_tail 1 = .ok (.iload_n 1, 1) := by decide +kernel
theorem dX6_tail_2 : decode cX6_tail 2 = .ok (.invokevirtual 81, 3) := by decide +kernel
theorem dX6_tail_5 : decode cX6_tail 5 = .ok (.ifCond .eq 12, 3) := by decide +kernel
theorem dX6_tail_8 : decode cX6_tail 8 = .ok (.aload_n 0, 1) := by decide +kernel
theorem dX6_tail_9 : decode cX6_tail 9 = .ok (.getfield 15, 3) := by decide +kernel
theorem dX6_tail_12 : decode cX6_tail 12 = .ok (.iload_n 1, 1) := by decide +kernel
theorem dX6_tail_13 : decode cX6_tail 13 = .ok (.iaload, 1) := by decide +kernel
theorem dX6_tail_14 : decode cX6_tail 14 = .ok (.goto 4, 3) := by decide +kernel
theorem dX6_tail_17 : decode cX6_tail 17 = .ok (.iconst 0, 1) := by decide +kernel
theorem dX6_tail_18 : decode cX6_tail 18 = .ok (.ireturn, 1) := by decide +kernel
theorem dX6_second_0 : decode cX6_second 0 = .ok (.aload_n 0, 1) := by decide +kernel
theorem dX6_second_1 : decode cX6_second 1 = .ok (.aload_n 0, 1) := by decide +kernel
theorem dX6_second_2 : decode cX6_second 2 = .ok (.iload_n 1, 1) := by decide +kernel
theorem dX6_second_3 : decode cX6_second 3 = .ok (.invokevirtual 78, 3) := by decide +kernel
theorem dX6_second_6 : decode cX6_second 6 = .ok (.invokevirtual 75, 3) := by decide +kernel
theorem dX6_second_9 : decode cX6_second 9 = .ok (.ireturn, 1) := by decide +kernel
theorem dX6_third_0 : decode cX6_third 0 = .ok (.aload_n 0, 1) := by decide +kernel
theorem dX6_third_1 : decode cX6_third 1 = .ok (.aload_n 0, 1) := by decide +kernel
theorem dX6_third_2 : decode cX6_third 2 = .ok (.aload_n 0, 1) := by decide +kernel
theorem dX6_third_3 : decode cX6_third 3 = .ok (.iload_n 1, 1) := by decide +kernel
theorem dX6_third_4 : decode cX6_third 4 = .ok (.invokevirtual 78, 3) := by decide +kernel
theorem dX6_third_7 : decode cX6_third 7 = .ok (.invokevirtual 78, 3) := by decide +kernel
theorem dX6_third_10 : decode cX6_third 10 = .ok (.invokevirtual 75, 3) := by decide +kernel
theorem dX6_third_13 : decode cX6_third 13 = .ok (.ireturn, 1) := by decide +kernel
theorem dX6_fourth_0 : decode cX6_fourth 0 = .ok (.aload_n 0, 1) := by decide +kernel
theorem dX6_fourth_1 : decode cX6_fourth 1 = .ok (.aload_n 0, 1) := by decide +kernel
theorem dX6_fourth_2 : decode cX6_fourth 2 = .ok (.aload_n 0, 1) := by decide +kernel
theorem dX6_fourth_3 : decode cX6_fourth 3 = .ok (.aload_n 0, 1) := by decide +kernel
theorem dX6_fourth_4 : decode cX6_fourth 4 = .ok (.iload_n 1, 1) := by decide +kernel
theorem dX6_fourth_5 : decode cX6_fourth 5 = .ok (.invokevirtual 78, 3) := by decide +kernel
theorem dX6_fourth_8 : decode cX6_fourth 8 = .ok (.invokevirtual 78, 3) := by decide +kernel
theorem dX6_fourth_11 : decode cX6_fourth 11 = .ok (.invokevirtual 78, 3) := by decide +kernel
theorem dX6_fourth_14 : decode cX6_fourth 14 = .ok (.invokevirtual 75, 3) := by decide +kernel
theorem dX6_fourth_17 : decode cX6_fourth 17 = .ok (.ireturn, 1) := by decide +kernel
theorem dX6_heightOf_0 : decode cX6_heightOf 0 = .ok (.iload_n 1, 1) := by decide +kernel
theorem dX6_heightOf_1 : decode cX6_heightOf 1 = .ok (.ifCond .lt 20, 3) := by decide +kernel
theorem dX6_heightOf_4 : decode cX6_heightOf 4 = .ok (.iload_n 1, 1) := by decide +kernel
theorem dX6_heightOf_5 : decode cX6_heightOf 5 = .ok (.aload_n 0, 1) := by decide +kernel
theorem dX6_heightOf_6 : decode cX6_heightOf 6 = .ok (.getfield 67, 3) := by decide +kernel
theorem dX6_heightOf_9 : decode cX6_heightOf 9 = .ok (.if_icmp .ge 12, 3) := by decide +kernel
theorem dX6_heightOf_12 : decode cX6_heightOf 12 = .ok (.aload_n 0, 1) := by decide +kernel
theorem dX6_heightOf_13 : decode cX6_heightOf 13 = .ok (.getfield 19, 3) := by decide +kernel
theorem dX6_heightOf_16 : decode cX6_heightOf 16 = .ok (.iload_n 1, 1) := by decide +kernel
theorem dX6_heightOf_17 : decode cX6_heightOf 17 = .ok (.iaload, 1) := by decide +kernel
theorem dX6_heightOf_18 : decode cX6_heightOf 18 = .ok (.goto 4, 3) := by decide +kernel
theorem dX6_heightOf_21 : decode cX6_heightOf 21 = .ok (.iconst 0, 1) := by decide +kernel
theorem dX6_heightOf_22 : decode cX6_heightOf 22 = .ok (.ireturn, 1) := by decide +kernel
theorem dX6_amount_0 : decode cX6_amount 0 = .ok (.aload_n 0, 1) := by decide +kernel
theorem dX6_amount_1 : decode cX6_amount 1 = .ok (.iload_n 1, 1) := by decide +kernel
theorem dX6_amount_2 : decode cX6_amount 2 = .ok (.invokevirtual 84, 3) := by decide +kernel
theorem dX6_amount_5 : decode cX6_amount 5 = .ok (.ifCond .eq 12, 3) := by decide +kernel
theorem dX6_amount_8 : decode cX6_amount 8 = .ok (.aload_n 0, 1) := by decide +kernel
theorem dX6_amount_9 : decode cX6_amount 9 = .ok (.getfield 11, 3) := by decide +kernel
theorem dX6_amount_12 : decode cX6_amount 12 = .ok (.iload_n 1, 1) := by decide +kernel
theorem dX6_amount_13 : decode cX6_amount 13 = .ok (.laload, 1) := by decide +kernel
theorem dX6_amount_14 : decode cX6_amount 14 = .ok (.goto 4, 3) := by decide +kernel
theorem dX6_amount_17 : decode cX6_amount 17 = .ok (.lconst 0, 1) := by decide +kernel
theorem dX6_amount_18 : decode cX6_amount 18 = .ok (.lreturn, 1) := by decide +kernel
theorem dX6_spelling_0 : decode cX6_spelling 0 = .ok (.aload_n 0, 1) := by decide +kernel
theorem dX6_spelling_1 : decode cX6_spelling 1 = .ok (.iload_n 1, 1) := by decide +kernel
theorem dX6_spelling_2 : decode cX6_spelling 2 = .ok (.invokevirtual 71, 3) := by decide +kernel
theorem dX6_spelling_5 : decode cX6_spelling 5 = .ok (.ifCond .eq 12, 3) := by decide +kernel
theorem dX6_spelling_8 : decode cX6_spelling 8 = .ok (.aload_n 0, 1) := by decide +kernel
theorem dX6_spelling_9 : decode cX6_spelling 9 = .ok (.getfield 11, 3) := by decide +kernel
theorem dX6_spelling_12 : decode cX6_spelling 12 = .ok (.iload_n 1, 1) := by decide +kernel
theorem dX6_spelling_13 : decode cX6_spelling 13 = .ok (.laload, 1) := by decide +kernel
theorem dX6_spelling_14 : decode cX6_spelling 14 = .ok (.goto 4, 3) := by decide +kernel
theorem dX6_spelling_17 : decode cX6_spelling 17 = .ok (.lconst 0, 1) := by decide +kernel
theorem dX6_spelling_18 : decode cX6_spelling 18 = .ok (.lreturn, 1) := by decide +kernel
theorem dX6_lengthOf_0 : decode cX6_lengthOf 0 = .ok (.iload_n 1, 1) := by decide +kernel
theorem dX6_lengthOf_1 : decode cX6_lengthOf 1 = .ok (.istore_n 2, 1) := by decide +kernel
theorem dX6_lengthOf_2 : decode cX6_lengthOf 2 = .ok (.iconst 0, 1) := by decide +kernel
theorem dX6_lengthOf_3 : decode cX6_lengthOf 3 = .ok (.istore_n 3, 1) := by decide +kernel
theorem dX6_lengthOf_4 : decode cX6_lengthOf 4 = .ok (.iload_n 3, 1) := by decide +kernel
theorem dX6_lengthOf_5 : decode cX6_lengthOf 5 = .ok (.aload_n 0, 1) := by decide +kernel
theorem dX6_lengthOf_6 : decode cX6_lengthOf 6 = .ok (.getfield 67, 3) := by decide +kernel
theorem dX6_lengthOf_9 : decode cX6_lengthOf 9 = .ok (.if_icmp .gt 31, 3) := by decide +kernel
theorem dX6_lengthOf_12 : decode cX6_lengthOf 12 = .ok (.iload_n 2, 1) := by decide +kernel
theorem dX6_lengthOf_13 : decode cX6_lengthOf 13 = .ok (.ifCond .ne 5, 3) := by decide +kernel
theorem dX6_lengthOf_16 : decode cX6_lengthOf 16 = .ok (.iload_n 3, 1) := by decide +kernel
theorem dX6_lengthOf_17 : decode cX6_lengthOf 17 = .ok (.ireturn, 1) := by decide +kernel
theorem dX6_lengthOf_18 : decode cX6_lengthOf 18 = .ok (.aload_n 0, 1) := by decide +kernel
theorem dX6_lengthOf_19 : decode cX6_lengthOf 19 = .ok (.iload_n 2, 1) := by decide +kernel
theorem dX6_lengthOf_20 : decode cX6_lengthOf 20 = .ok (.invokevirtual 81, 3) := by decide +kernel
theorem dX6_lengthOf_23 : decode cX6_lengthOf 23 = .ok (.ifCond .ne 5, 3) := by decide +kernel
theorem dX6_lengthOf_26 : decode cX6_lengthOf 26 = .ok (.iconst (-1), 1) := by decide +kernel
theorem dX6_lengthOf_27 : decode cX6_lengthOf 27 = .ok (.ireturn, 1) := by decide +kernel
theorem dX6_lengthOf_28 : decode cX6_lengthOf 28 = .ok (.aload_n 0, 1) := by decide +kernel
theorem dX6_lengthOf_29 : decode cX6_lengthOf 29 = .ok (.iload_n 2, 1) := by decide +kernel
theorem dX6_lengthOf_30 : decode cX6_lengthOf 30 = .ok (.invokevirtual 78, 3) := by decide +kernel
theorem dX6_lengthOf_33 : decode cX6_lengthOf 33 = .ok (.istore_n 2, 1) := by decide +kernel
theorem dX6_lengthOf_34 : decode cX6_lengthOf 34 = .ok (.iinc 3 1, 3) := by decide +kernel
theorem dX6_lengthOf_37 : decode cX6_lengthOf 37 = .ok (.goto (-33), 3) := by decide +kernel
theorem dX6_lengthOf_40 : decode cX6_lengthOf 40 = .ok (.iconst (-1), 1) := by decide +kernel
theorem dX6_lengthOf_41 : decode cX6_lengthOf 41 = .ok (.ireturn, 1) := by decide +kernel
theorem dX6_isElement_0 : decode cX6_isElement 0 = .ok (.iload_n 2, 1) := by decide +kernel
theorem dX6_isElement_1 : decode cX6_isElement 1 = .ok (.istore_n 3, 1) := by decide +kernel
theorem dX6_isElement_2 : decode cX6_isElement 2 = .ok (.iconst 0, 1) := by decide +kernel
theorem dX6_isElement_3 : decode cX6_isElement 3 = .ok (.istore 4, 2) := by decide +kernel
theorem dX6_isElement_5 : decode cX6_isElement 5 = .ok (.iload 4, 2) := by decide +kernel
theorem dX6_isElement_7 : decode cX6_isElement 7 = .ok (.aload_n 0, 1) := by decide +kernel
theorem dX6_isElement_8 : decode cX6_isElement 8 = .ok (.getfield 67, 3) := by decide +kernel
theorem dX6_isElement_11 : decode cX6_isElement 11 = .ok (.if_icmp .ge 34, 3) := by decide +kernel
theorem dX6_isElement_14 : decode cX6_isElement 14 = .ok (.aload_n 0, 1) := by decide +kernel
theorem dX6_isElement_15 : decode cX6_isElement 15 = .ok (.iload_n 3, 1) := by decide +kernel
theorem dX6_isElement_16 : decode cX6_isElement 16 = .ok (.invokevirtual 81, 3) := by decide +kernel
theorem dX6_isElement_19 : decode cX6_isElement 19 = .ok (.ifCond .eq 26, 3) := by decide +kernel
theorem dX6_isElement_22 : decode cX6_isElement 22 = .ok (.aload_n 0, 1) := by decide +kernel
theorem dX6_isElement_23 : decode cX6_isElement 23 = .ok (.iload_n 3, 1) := by decide +kernel
theorem dX6_isElement_24 : decode cX6_isElement 24 = .ok (.invokevirtual 75, 3) := by decide +kernel
theorem dX6_isElement_27 : decode cX6_isElement 27 = .ok (.iload_n 1, 1) := by decide +kernel
theorem dX6_isElement_28 : decode cX6_isElement 28 = .ok (.if_icmp .ne 5, 3) := by decide +kernel
theorem dX6_isElement_31 : decode cX6_isElement 31 = .ok (.iconst 1, 1) := by decide +kernel
theorem dX6_isElement_32 : decode cX6_isElement 32 = .ok (.ireturn, 1) := by decide +kernel
theorem dX6_isElement_33 : decode cX6_isElement 33 = .ok (.aload_n 0, 1) := by decide +kernel
theorem dX6_isElement_34 : decode cX6_isElement 34 = .ok (.iload_n 3, 1) := by decide +kernel
theorem dX6_isElement_35 : decode cX6_isElement 35 = .ok (.invokevirtual 78, 3) := by decide +kernel
theorem dX6_isElement_38 : decode cX6_isElement 38 = .ok (.istore_n 3, 1) := by decide +kernel
theorem dX6_isElement_39 : decode cX6_isElement 39 = .ok (.iinc 4 1, 3) := by decide +kernel
theorem dX6_isElement_42 : decode cX6_isElement 42 = .ok (.goto (-37), 3) := by decide +kernel
theorem dX6_isElement_45 : decode cX6_isElement 45 = .ok (.iconst 0, 1) := by decide +kernel
theorem dX6_isElement_46 : decode cX6_isElement 46 = .ok (.ireturn, 1) := by decide +kernel
theorem dX6_makeRoom_0 : decode cX6_makeRoom 0 = .ok (.sipush 2048, 3) := by decide +kernel
theorem dX6_makeRoom_3 : decode cX6_makeRoom 3 = .ok (.istore_n 2, 1) := by decide +kernel
theorem dX6_makeRoom_4 : decode cX6_makeRoom 4 = .ok (.iload_n 2, 1) := by decide +kernel
theorem dX6_makeRoom_5 : decode cX6_makeRoom 5 = .ok (.aload_n 0, 1) := by decide +kernel
theorem dX6_makeRoom_6 : decode cX6_makeRoom 6 = .ok (.getfield 67, 3) := by decide +kernel
theorem dX6_makeRoom_9 : decode cX6_makeRoom 9 = .ok (.iload_n 1, 1) := by decide +kernel
theorem dX6_makeRoom_10 : decode cX6_makeRoom 10 = .ok (.iadd, 1) := by decide +kernel
theorem dX6_makeRoom_11 : decode cX6_makeRoom 11 = .ok (.if_icmp .ge 17, 3) := by decide +kernel
theorem dX6_makeRoom_14 : decode cX6_makeRoom 14 = .ok (.iload_n 2, 1) := by decide +kernel
theorem dX6_makeRoom_15 : decode cX6_makeRoom 15 = .ok (.sipush 16384, 3) := by decide +kernel
theorem dX6_makeRoom_18 : decode cX6_makeRoom 18 = .ok (.if_icmp .ge 10, 3) := by decide +kernel
theorem dX6_makeRoom_21 : decode cX6_makeRoom 21 = .ok (.iload_n 2, 1) := by decide +kernel
theorem dX6_makeRoom_22 : decode cX6_makeRoom 22 = .ok (.iconst 2, 1) := by decide +kernel
theorem dX6_makeRoom_23 : decode cX6_makeRoom 23 = .ok (.imul, 1) := by decide +kernel
theorem dX6_makeRoom_24 : decode cX6_makeRoom 24 = .ok (.istore_n 2, 1) := by decide +kernel
theorem dX6_makeRoom_25 : decode cX6_makeRoom 25 = .ok (.goto (-21), 3) := by decide +kernel
theorem dX6_makeRoom_28 : decode cX6_makeRoom 28 = .ok (.iload_n 2, 1) := by decide +kernel
theorem dX6_makeRoom_29 : decode cX6_makeRoom 29 = .ok (.aload_n 0, 1) := by decide +kernel
theorem dX6_makeRoom_30 : decode cX6_makeRoom 30 = .ok (.getfield 15, 3) := by decide +kernel
theorem dX6_makeRoom_33 : decode cX6_makeRoom 33 = .ok (.arraylength, 1) := by decide +kernel
theorem dX6_makeRoom_34 : decode cX6_makeRoom 34 = .ok (.if_icmp .le 51, 3) := by decide +kernel
theorem dX6_makeRoom_37 : decode cX6_makeRoom 37 = .ok (.aload_n 0, 1) := by decide +kernel
theorem dX6_makeRoom_38 : decode cX6_makeRoom 38 = .ok (.aload_n 0, 1) := by decide +kernel
theorem dX6_makeRoom_39 : decode cX6_makeRoom 39 = .ok (.getfield 11, 3) := by decide +kernel
theorem dX6_makeRoom_42 : decode cX6_makeRoom 42 = .ok (.iload_n 2, 1) := by decide +kernel
theorem dX6_makeRoom_43 : decode cX6_makeRoom 43 = .ok (.invokestatic 87, 3) := by decide +kernel
theorem dX6_makeRoom_46 : decode cX6_makeRoom 46 = .ok (.putfield 11, 3) := by decide +kernel
theorem dX6_makeRoom_49 : decode cX6_makeRoom 49 = .ok (.aload_n 0, 1) := by decide +kernel
theorem dX6_makeRoom_50 : decode cX6_makeRoom 50 = .ok (.aload_n 0, 1) := by decide +kernel
theorem dX6_makeRoom_51 : decode cX6_makeRoom 51 = .ok (.getfield 15, 3) := by decide +kernel
theorem dX6_makeRoom_54 : decode cX6_makeRoom 54 = .ok (.iload_n 2, 1) := by decide +kernel
theorem dX6_makeRoom_55 : decode cX6_makeRoom 55 = .ok (.invokestatic 91, 3) := by decide +kernel
theorem dX6_makeRoom_58 : decode cX6_makeRoom 58 = .ok (.putfield 15, 3) := by decide +kernel
theorem dX6_makeRoom_61 : decode cX6_makeRoom 61 = .ok (.aload_n 0, 1) := by decide +kernel
theorem dX6_makeRoom_62 : decode cX6_makeRoom 62 = .ok (.aload_n 0, 1) := by decide +kernel
theorem dX6_makeRoom_63 : decode cX6_makeRoom 63 = .ok (.getfield 19, 3) := by decide +kernel
theorem dX6_makeRoom_66 : decode cX6_makeRoom 66 = .ok (.iload_n 2, 1) := by decide +kernel
theorem dX6_makeRoom_67 : decode cX6_makeRoom 67 = .ok (.invokestatic 91, 3) := by decide +kernel
theorem dX6_makeRoom_70 : decode cX6_makeRoom 70 = .ok (.putfield 19, 3) := by decide +kernel
theorem dX6_makeRoom_73 : decode cX6_makeRoom 73 = .ok (.aload_n 0, 1) := by decide +kernel
theorem dX6_makeRoom_74 : decode cX6_makeRoom 74 = .ok (.aload_n 0, 1) := by decide +kernel
theorem dX6_makeRoom_75 : decode cX6_makeRoom 75 = .ok (.getfield 22, 3) := by decide +kernel
theorem dX6_makeRoom_78 : decode cX6_makeRoom 78 = .ok (.iload_n 2, 1) := by decide +kernel
theorem dX6_makeRoom_79 : decode cX6_makeRoom 79 = .ok (.invokestatic 91, 3) := by decide +kernel
theorem dX6_makeRoom_82 : decode cX6_makeRoom 82 = .ok (.putfield 22, 3) := by decide +kernel
theorem dX6_makeRoom_85 : decode cX6_makeRoom 85 = .ok (.aload_n 0, 1) := by decide +kernel
theorem dX6_makeRoom_86 : decode cX6_makeRoom 86 = .ok (.getfield 15, 3) := by decide +kernel
theorem dX6_makeRoom_89 : decode cX6_makeRoom 89 = .ok (.arraylength, 1) := by decide +kernel
theorem dX6_makeRoom_90 : decode cX6_makeRoom 90 = .ok (.aload_n 0, 1) := by decide +kernel
theorem dX6_makeRoom_91 : decode cX6_makeRoom 91 = .ok (.getfield 67, 3) := by decide +kernel
theorem dX6_makeRoom_94 : decode cX6_makeRoom 94 = .ok (.iload_n 1, 1) := by decide +kernel
theorem dX6_makeRoom_95 : decode cX6_makeRoom 95 = .ok (.iadd, 1) := by decide +kernel
theorem dX6_makeRoom_96 : decode cX6_makeRoom 96 = .ok (.if_icmp .lt 7, 3) := by decide +kernel
theorem dX6_makeRoom_99 : decode cX6_makeRoom 99 = .ok (.iconst 1, 1) := by decide +kernel
theorem dX6_makeRoom_100 : decode cX6_makeRoom 100 = .ok (.goto 4, 3) := by decide +kernel
theorem dX6_makeRoom_103 : decode cX6_makeRoom 103 = .ok (.iconst 0, 1) := by decide +kernel
theorem dX6_makeRoom_104 : decode cX6_makeRoom 104 = .ok (.ireturn, 1) := by decide +kernel
theorem dX6_forgetFrom_0 : decode cX6_forgetFrom 0 = .ok (.aload_n 0, 1) := by decide +kernel
theorem dX6_forgetFrom_1 : decode cX6_forgetFrom 1 = .ok (.getfield 67, 3) := by decide +kernel
theorem dX6_forgetFrom_4 : decode cX6_forgetFrom 4 = .ok (.iconst 1, 1) := by decide +kernel
theorem dX6_forgetFrom_5 : decode cX6_forgetFrom 5 = .ok (.isub, 1) := by decide +kernel
theorem dX6_forgetFrom_6 : decode cX6_forgetFrom 6 = .ok (.istore_n 2, 1) := by decide +kernel
theorem dX6_forgetFrom_7 : decode cX6_forgetFrom 7 = .ok (.iload_n 2, 1) := by decide +kernel
theorem dX6_forgetFrom_8 : decode cX6_forgetFrom 8 = .ok (.iload_n 1, 1) := by decide +kernel
theorem dX6_forgetFrom_9 : decode cX6_forgetFrom 9 = .ok (.if_icmp .lt 46, 3) := by decide +kernel
theorem dX6_forgetFrom_12 : decode cX6_forgetFrom 12 = .ok (.iload_n 2, 1) := by decide +kernel
theorem dX6_forgetFrom_13 : decode cX6_forgetFrom 13 = .ok (.bipush 16, 2) := by decide +kernel
theorem dX6_forgetFrom_15 : decode cX6_forgetFrom 15 = .ok (.if_icmp .le 40, 3) := by decide +kernel
theorem dX6_forgetFrom_18 : decode cX6_forgetFrom 18 = .ok (.aload_n 0, 1) := by decide +kernel
theorem dX6_forgetFrom_19 : decode cX6_forgetFrom 19 = .ok (.getfield 25, 3) := by decide +kernel
theorem dX6_forgetFrom_22 : decode cX6_forgetFrom 22 = .ok (.aload_n 0, 1) := by decide +kernel
theorem dX6_forgetFrom_23 : decode cX6_forgetFrom 23 = .ok (.getfield 11, 3) := by decide +kernel
theorem dX6_forgetFrom_26 : decode cX6_forgetFrom 26 = .ok (.iload_n 2, 1) := by decide +kernel
theorem dX6_forgetFrom_27 : decode cX6_forgetFrom 27 = .ok (.laload, 1) := by decide +kernel
theorem dX6_forgetFrom_28 : decode cX6_forgetFrom 28 = .ok (.aload_n 0, 1) := by decide +kernel
theorem dX6_forgetFrom_29 : decode cX6_forgetFrom 29 = .ok (.getfield 15, 3) := by decide +kernel
theorem dX6_forgetFrom_32 : decode cX6_forgetFrom 32 = .ok (.iload_n 2, 1) := by decide +kernel
theorem dX6_forgetFrom_33 : decode cX6_forgetFrom 33 = .ok (.iaload, 1) := by decide +kernel
theorem dX6_forgetFrom_34 : decode cX6_forgetFrom 34 = .ok (.invokestatic 94, 3) := by decide +kernel
theorem dX6_forgetFrom_37 : decode cX6_forgetFrom 37 = .ok (.aload_n 0, 1) := by decide +kernel
theorem dX6_forgetFrom_38 : decode cX6_forgetFrom 38 = .ok (.getfield 22, 3) := by decide +kernel
theorem dX6_forgetFrom_41 : decode cX6_forgetFrom 41 = .ok (.iload_n 2, 1) := by decide +kernel
theorem dX6_forgetFrom_42 : decode cX6_forgetFrom 42 = .ok (.iaload, 1) := by decide +kernel
theorem dX6_forgetFrom_43 : decode cX6_forgetFrom 43 = .ok (.iastore, 1) := by decide +kernel
theorem dX6_forgetFrom_44 : decode cX6_forgetFrom 44 = .ok (.aload_n 0, 1) := by decide +kernel
theorem dX6_forgetFrom_45 : decode cX6_forgetFrom 45 = .ok (.iload_n 2, 1) := by decide +kernel
theorem dX6_forgetFrom_46 : decode cX6_forgetFrom 46 = .ok (.putfield 67, 3) := by decide +kernel
theorem dX6_forgetFrom_49 : decode cX6_forgetFrom 49 = .ok (.iinc 2 (-1), 3) := by decide +kernel
theorem dX6_forgetFrom_52 : decode cX6_forgetFrom 52 = .ok (.goto (-45), 3) := by decide +kernel
theorem dX6_forgetFrom_55 : decode cX6_forgetFrom 55 = .ok (.return_, 1) := by decide +kernel
theorem dX6_hold_0 : decode cX6_hold 0 = .ok (.lload_n 1, 1) := by decide +kernel
theorem dX6_hold_1 : decode cX6_hold 1 = .ok (.iload_n 3, 1) := by decide +kernel
theorem dX6_hold_2 : decode cX6_hold 2 = .ok (.invokestatic 94, 3) := by decide +kernel
theorem dX6_hold_5 : decode cX6_hold 5 = .ok (.istore 5, 2) := by decide +kernel
theorem dX6_hold_7 : decode cX6_hold 7 = .ok (.aload_n 0, 1) := by decide +kernel
theorem dX6_hold_8 : decode cX6_hold 8 = .ok (.getfield 25, 3) := by decide +kernel
theorem dX6_hold_11 : decode cX6_hold 11 = .ok (.iload 5, 2) := by decide +kernel
theorem dX6_hold_13 : decode cX6_hold 13 = .ok (.iaload, 1) := by decide +kernel
theorem dX6_hold_14 : decode cX6_hold 14 = .ok (.istore 6, 2) := by decide +kernel
theorem dX6_hold_16 : decode cX6_hold 16 = .ok (.iconst 0, 1) := by decide +kernel
theorem dX6_hold_17 : decode cX6_hold 17 = .ok (.istore 7, 2) := by decide +kernel
theorem dX6_hold_19 : decode cX6_hold 19 = .ok (.iload 7, 2) := by decide +kernel
theorem dX6_hold_21 : decode cX6_hold 21 = .ok (.aload_n 0, 1) := by decide +kernel
theorem dX6_hold_22 : decode cX6_hold 22 = .ok (.getfield 67, 3) := by decide +kernel
theorem dX6_hold_25 : decode cX6_hold 25 = .ok (.if_icmp .ge 58, 3) := by decide +kernel
theorem dX6_hold_28 : decode cX6_hold 28 = .ok (.iload 6, 2) := by decide +kernel
theorem dX6_hold_30 : decode cX6_hold 30 = .ok (.ifCond .lt 53, 3) := by decide +kernel
theorem dX6_hold_33 : decode cX6_hold 33 = .ok (.iload 6, 2) := by decide +kernel
theorem dX6_hold_35 : decode cX6_hold 35 = .ok (.aload_n 0, 1) := by decide +kernel
theorem dX6_hold_36 : decode cX6_hold 36 = .ok (.getfield 67, 3) := by decide +kernel
theorem dX6_hold_39 : decode cX6_hold 39 = .ok (.if_icmp .ge 44, 3) := by decide +kernel
theorem dX6_hold_42 : decode cX6_hold 42 = .ok (.aload_n 0, 1) := by decide +kernel
theorem dX6_hold_43 : decode cX6_hold 43 = .ok (.getfield 11, 3) := by decide +kernel
theorem dX6_hold_46 : decode cX6_hold 46 = .ok (.iload 6, 2) := by decide +kernel
theorem dX6_hold_48 : decode cX6_hold 48 = .ok (.laload, 1) := by decide +kernel
theorem dX6_hold_49 : decode cX6_hold 49 = .ok (.lload_n 1, 1) := by decide +kernel
theorem dX6_hold_50 : decode cX6_hold 50 = .ok (.lcmp, 1) := by decide +kernel
theorem dX6_hold_51 : decode cX6_hold 51 = .ok (.ifCond .ne 17, 3) := by decide +kernel
theorem dX6_hold_54 : decode cX6_hold 54 = .ok (.aload_n 0, 1) := by decide +kernel
theorem dX6_hold_55 : decode cX6_hold 55 = .ok (.getfield 15, 3) := by decide +kernel
theorem dX6_hold_58 : decode cX6_hold 58 = .ok (.iload 6, 2) := by decide +kernel
theorem dX6_hold_60 : decode cX6_hold 60 = .ok (.iaload, 1) := by decide +kernel
theorem dX6_hold_61 : decode cX6_hold 61 = .ok (.iload_n 3, 1) := by decide +kernel
theorem dX6_hold_62 : decode cX6_hold 62 = .ok (.if_icmp .ne 6, 3) := by decide +kernel
theorem dX6_hold_65 : decode cX6_hold 65 = .ok (.iload 6, 2) := by decide +kernel
theorem dX6_hold_67 : decode cX6_hold 67 = .ok (.ireturn, 1) := by decide +kernel
theorem dX6_hold_68 : decode cX6_hold 68 = .ok (.aload_n 0, 1) := by decide +kernel
theorem dX6_hold_69 : decode cX6_hold 69 = .ok (.getfield 22, 3) := by decide +kernel
theorem dX6_hold_72 : decode cX6_hold 72 = .ok (.iload 6, 2) := by decide +kernel
theorem dX6_hold_74 : decode cX6_hold 74 = .ok (.iaload, 1) := by decide +kernel
theorem dX6_hold_75 : decode cX6_hold 75 = .ok (.istore 6, 2) := by decide +kernel
theorem dX6_hold_77 : decode cX6_hold 77 = .ok (.iinc 7 1, 3) := by decide +kernel
theorem dX6_hold_80 : decode cX6_hold 80 = .ok (.goto (-61), 3) := by decide +kernel
theorem dX6_hold_83 : decode cX6_hold 83 = .ok (.aload_n 0, 1) := by decide +kernel
theorem dX6_hold_84 : decode cX6_hold 84 = .ok (.getfield 67, 3) := by decide +kernel
theorem dX6_hold_87 : decode cX6_hold 87 = .ok (.aload_n 0, 1) := by decide +kernel
theorem dX6_hold_88 : decode cX6_hold 88 = .ok (.getfield 15, 3) := by decide +kernel
theorem dX6_hold_91 : decode cX6_hold 91 = .ok (.arraylength, 1) := by decide +kernel
theorem dX6_hold_92 : decode cX6_hold 92 = .ok (.if_icmp .lt 5, 3) := by decide +kernel
theorem dX6_hold_95 : decode cX6_hold 95 = .ok (.iconst 0, 1) := by decide +kernel
theorem dX6_hold_96 : decode cX6_hold 96 = .ok (.ireturn, 1) := by decide +kernel
theorem dX6_hold_97 : decode cX6_hold 97 = .ok (.aload_n 0, 1) := by decide +kernel
theorem dX6_hold_98 : decode cX6_hold 98 = .ok (.getfield 11, 3) := by decide +kernel
theorem dX6_hold_101 : decode cX6_hold 101 = .ok (.aload_n 0, 1) := by decide +kernel
theorem dX6_hold_102 : decode cX6_hold 102 = .ok (.getfield 67, 3) := by decide +kernel
theorem dX6_hold_105 : decode cX6_hold 105 = .ok (.lload_n 1, 1) := by decide +kernel
theorem dX6_hold_106 : decode cX6_hold 106 = .ok (.lastore, 1) := by decide +kernel
theorem dX6_hold_107 : decode cX6_hold 107 = .ok (.aload_n 0, 1) := by decide +kernel
theorem dX6_hold_108 : decode cX6_hold 108 = .ok (.getfield 15, 3) := by decide +kernel
theorem dX6_hold_111 : decode cX6_hold 111 = .ok (.aload_n 0, 1) := by decide +kernel
theorem dX6_hold_112 : decode cX6_hold 112 = .ok (.getfield 67, 3) := by decide +kernel
theorem dX6_hold_115 : decode cX6_hold 115 = .ok (.iload_n 3, 1) := by decide +kernel
theorem dX6_hold_116 : decode cX6_hold 116 = .ok (.iastore, 1) := by decide +kernel
theorem dX6_hold_117 : decode cX6_hold 117 = .ok (.aload_n 0, 1) := by decide +kernel
theorem dX6_hold_118 : decode cX6_hold 118 = .ok (.getfield 19, 3) := by decide +kernel
theorem dX6_hold_121 : decode cX6_hold 121 = .ok (.aload_n 0, 1) := by decide +kernel
theorem dX6_hold_122 : decode cX6_hold 122 = .ok (.getfield 67, 3) := by decide +kernel
theorem dX6_hold_125 : decode cX6_hold 125 = .ok (.iload 4, 2) := by decide +kernel
theorem dX6_hold_127 : decode cX6_hold 127 = .ok (.iastore, 1) := by decide +kernel
theorem dX6_hold_128 : decode cX6_hold 128 = .ok (.aload_n 0, 1) := by decide +kernel
theorem dX6_hold_129 : decode cX6_hold 129 = .ok (.getfield 22, 3) := by decide +kernel
theorem dX6_hold_132 : decode cX6_hold 132 = .ok (.aload_n 0, 1) := by decide +kernel
theorem dX6_hold_133 : decode cX6_hold 133 = .ok (.getfield 67, 3) := by decide +kernel
theorem dX6_hold_136 : decode cX6_hold 136 = .ok (.aload_n 0, 1) := by decide +kernel
theorem dX6_hold_137 : decode cX6_hold 137 = .ok (.getfield 25, 3) := by decide +kernel
theorem dX6_hold_140 : decode cX6_hold 140 = .ok (.iload 5, 2) := by decide +kernel
theorem dX6_hold_142 : decode cX6_hold 142 = .ok (.iaload, 1) := by decide +kernel
theorem dX6_hold_143 : decode cX6_hold 143 = .ok (.iastore, 1) := by decide +kernel
theorem dX6_hold_144 : decode cX6_hold 144 = .ok (.aload_n 0, 1) := by decide +kernel
theorem dX6_hold_145 : decode cX6_hold 145 = .ok (.getfield 25, 3) := by decide +kernel
theorem dX6_hold_148 : decode cX6_hold 148 = .ok (.iload 5, 2) := by decide +kernel
theorem dX6_hold_150 : decode cX6_hold 150 = .ok (.aload_n 0, 1) := by decide +kernel
theorem dX6_hold_151 : decode cX6_hold 151 = .ok (.getfield 67, 3) := by decide +kernel
theorem dX6_hold_154 : decode cX6_hold 154 = .ok (.iastore, 1) := by decide +kernel
theorem dX6_hold_155 : decode cX6_hold 155 = .ok (.aload_n 0, 1) := by decide +kernel
theorem dX6_hold_156 : decode cX6_hold 156 = .ok (.dup, 1) := by decide +kernel
theorem dX6_hold_157 : decode cX6_hold 157 = .ok (.getfield 67, 3) := by decide +kernel
theorem dX6_hold_160 : decode cX6_hold 160 = .ok (.dup_x1, 1) := by decide +kernel
theorem dX6_hold_161 : decode cX6_hold 161 = .ok (.iconst 1, 1) := by decide +kernel
theorem dX6_hold_162 : decode cX6_hold 162 = .ok (.iadd, 1) := by decide +kernel
theorem dX6_hold_163 : decode cX6_hold 163 = .ok (.putfield 67, 3) := by decide +kernel
theorem dX6_hold_166 : decode cX6_hold 166 = .ok (.ireturn, 1) := by decide +kernel
theorem dX6_bucketOf_0 : decode cX6_bucketOf 0 = .ok (.lload_n 0, 1) := by decide +kernel
theorem dX6_bucketOf_1 : decode cX6_bucketOf 1 = .ok (.ldc2_w 98, 3) := by decide +kernel
theorem dX6_bucketOf_4 : decode cX6_bucketOf 4 = .ok (.lmul, 1) := by decide +kernel
theorem dX6_bucketOf_5 : decode cX6_bucketOf 5 = .ok (.iload_n 2, 1) := by decide +kernel
theorem dX6_bucketOf_6 : decode cX6_bucketOf 6 = .ok (.i2l, 1) := by decide +kernel
theorem dX6_bucketOf_7 : decode cX6_bucketOf 7 = .ok (.ladd, 1) := by decide +kernel
theorem dX6_bucketOf_8 : decode cX6_bucketOf 8 = .ok (.ldc2_w 100, 3) := by decide +kernel
theorem dX6_bucketOf_11 : decode cX6_bucketOf 11 = .ok (.lmul, 1) := by decide +kernel
theorem dX6_bucketOf_12 : decode cX6_bucketOf 12 = .ok (.lstore_n 3, 1) := by decide +kernel
theorem dX6_bucketOf_13 : decode cX6_bucketOf 13 = .ok (.lload_n 3, 1) := by decide +kernel
theorem dX6_bucketOf_14 : decode cX6_bucketOf 14 = .ok (.bipush 54, 2) := by decide +kernel
theorem dX6_bucketOf_16 : decode cX6_bucketOf 16 = .ok (.lushr, 1) := by decide +kernel
theorem dX6_bucketOf_17 : decode cX6_bucketOf 17 = .ok (.l2i, 1) := by decide +kernel
theorem dX6_bucketOf_18 : decode cX6_bucketOf 18 = .ok (.ireturn, 1) := by decide +kernel
theorem dX7_init_0 : decode cX7_init 0 = .ok (.aload_n 0, 1) := by decide +kernel
theorem dX7_init_1 : decode cX7_init 1 = .ok (.invokespecial 3, 3) := by decide +kernel
theorem dX7_init_4 : decode cX7_init 4 = .ok (.aload_n 0, 1) := by decide +kernel
theorem dX7_init_5 : decode cX7_init 5 = .ok (.sipush 2000, 3) := by decide +kernel
theorem dX7_init_8 : decode cX7_init 8 = .ok (.newarray .char, 2) := by decide +kernel
theorem dX7_init_10 : decode cX7_init 10 = .ok (.putfield 9, 3) := by decide +kernel
theorem dX7_init_13 : decode cX7_init 13 = .ok (.aload_n 0, 1) := by decide +kernel
theorem dX7_init_14 : decode cX7_init 14 = .ok (.sipush 2000, 3) := by decide +kernel
theorem dX7_init_17 : decode cX7_init 17 = .ok (.newarray .int, 2) := by decide +kernel
theorem dX7_init_19 : decode cX7_init 19 = .ok (.putfield 15, 3) := by decide +kernel
theorem dX7_init_22 : decode cX7_init 22 = .ok (.aload_n 0, 1) := by decide +kernel
theorem dX7_init_23 : decode cX7_init 23 = .ok (.aload_n 1, 1) := by decide +kernel
theorem dX7_init_24 : decode cX7_init 24 = .ok (.putfield 19, 3) := by decide +kernel
theorem dX7_init_27 : decode cX7_init 27 = .ok (.return_, 1) := by decide +kernel
theorem dX7_clear_0 : decode cX7_clear 0 = .ok (.aload_n 0, 1) := by decide +kernel
theorem dX7_clear_1 : decode cX7_clear 1 = .ok (.iconst 0, 1) := by decide +kernel
theorem dX7_clear_2 : decode cX7_clear 2 = .ok (.putfield 23, 3) := by decide +kernel
theorem dX7_clear_5 : decode cX7_clear 5 = .ok (.return_, 1) := by decide +kernel
theorem dX7_characterAt_0 : decode cX7_characterAt 0 = .ok (.iload_n 1, 1) := by decide +kernel
theorem dX7_characterAt_1 : decode cX7_characterAt 1 = .ok (.ifCond .lt 20, 3) := by decide +kernel
theorem dX7_characterAt_4 : decode cX7_characterAt 4 = .ok (.iload_n 1, 1) := by decide +kernel
theorem dX7_characterAt_5 : decode cX7_characterAt 5 = .ok (.aload_n 0, 1) := by decide +kernel
theorem dX7_characterAt_6 : decode cX7_characterAt 6 = .ok (.getfield 23, 3) := by decide +kernel
theorem dX7_characterAt_9 : decode cX7_characterAt 9 = .ok (.if_icmp .ge 12, 3) := by decide +kernel
theorem dX7_characterAt_12 : decode cX7_characterAt 12 = .ok (.aload_n 0, 1) := by decide +kernel
theorem dX7_characterAt_13 : decode cX7_characterAt 13 = .ok (.getfield 9, 3) := by decide +kernel
theorem dX7_characterAt_16 : decode cX7_characterAt 16 = .ok (.iload_n 1, 1) := by decide +kernel
theorem dX7_characterAt_17 : decode cX7_characterAt 17 = .ok (.caload, 1) := by decide +kernel
theorem dX7_characterAt_18 : decode cX7_characterAt 18 = .ok (.goto 4, 3) := by decide +kernel
theorem dX7_characterAt_21 : decode cX7_characterAt 21 = .ok (.iconst (-1), 1) := by decide +kernel
theorem dX7_characterAt_22 : decode cX7_characterAt 22 = .ok (.ireturn, 1) := by decide +kernel
theorem dX7_tell_0 : decode cX7_tell 0 = .ok (.aload_n 0, 1) := by decide +kernel
theorem dX7_tell_1 : decode cX7_tell 1 = .ok (.iconst 0, 1) := by decide +kernel
theorem dX7_tell_2 : decode cX7_tell 2 = .ok (.putfield 27, 3) := by decide +kernel
theorem dX7_tell_5 : decode cX7_tell 5 = .ok (.iload_n 1, 1) := by decide +kernel
theorem dX7_tell_6 : decode cX7_tell 6 = .ok (.istore_n 2, 1) := by decide +kernel
theorem dX7_tell_7 : decode cX7_tell 7 = .ok (.iconst 0, 1) := by decide +kernel
theorem dX7_tell_8 : decode cX7_tell 8 = .ok (.istore_n 3, 1) := by decide +kernel
theorem dX7_tell_9 : decode cX7_tell 9 = .ok (.iload_n 3, 1) := by decide +kernel
theorem dX7_tell_10 : decode cX7_tell 10 = .ok (.sipush 2000, 3) := by decide +kernel
theorem dX7_tell_13 : decode cX7_tell 13 = .ok (.if_icmp .ge 20, 3) := by decide +kernel
theorem dX7_tell_16 : decode cX7_tell 16 = .ok (.iload_n 2, 1) := by decide +kernel
theorem dX7_tell_17 : decode cX7_tell 17 = .ok (.iconst (-1), 1) := by decide +kernel
theorem dX7_tell_18 : decode cX7_tell 18 = .ok (.if_icmp .eq 15, 3) := by decide +kernel
theorem dX7_tell_21 : decode cX7_tell 21 = .ok (.aload_n 0, 1) := by decide +kernel
theorem dX7_tell_22 : decode cX7_tell 22 = .ok (.iload_n 2, 1) := by decide +kernel
theorem dX7_tell_23 : decode cX7_tell 23 = .ok (.invokevirtual 30, 3) := by decide +kernel
theorem dX7_tell_26 : decode cX7_tell 26 = .ok (.istore_n 2, 1) := by decide +kernel
theorem dX7_tell_27 : decode cX7_tell 27 = .ok (.iinc 3 1, 3) := by decide +kernel
theorem dX7_tell_30 : decode cX7_tell 30 = .ok (.goto (-21), 3) := by decide +kernel
theorem dX7_tell_33 : decode cX7_tell 33 = .ok (.return_, 1) := by decide +kernel
theorem dX7_beginObject_0 : decode cX7_beginObject 0 = .ok (.aload_n 0, 1) := by decide +kernel
theorem dX7_beginObject_1 : decode cX7_beginObject 1 = .ok (.getfield 19, 3) := by decide +kernel
theorem dX7_beginObject_4 : decode cX7_beginObject 4 = .ok (.iload_n 1, 1) := by decide +kernel
theorem dX7_beginObject_5 : decode cX7_beginObject 5 = .ok (.invokevirtual 34, 3) := by decide +kernel
theorem dX7_beginObject_8 : decode cX7_beginObject 8 = .ok (.ifCond .eq 18, 3) := by decide +kernel
theorem dX7_beginObject_11 : decode cX7_beginObject 11 = .ok (.aload_n 0, 1) := by decide +kernel
theorem dX7_beginObject_12 : decode cX7_beginObject 12 = .ok (.bipush 39, 2) := by decide +kernel
theorem dX7_beginObject_14 : decode cX7_beginObject 14 = .ok (.invokevirtual 40, 3) := by decide +kernel
theorem dX7_beginObject_17 : decode cX7_beginObject 17 = .ok (.aload_n 0, 1) := by decide +kernel
theorem dX7_beginObject_18 : decode cX7_beginObject 18 = .ok (.getfield 19, 3) := by decide +kernel
theorem dX7_beginObject_21 : decode cX7_beginObject 21 = .ok (.iload_n 1, 1) := by decide +kernel
theorem dX7_beginObject_22 : decode cX7_beginObject 22 = .ok (.invokevirtual 44, 3) := by decide +kernel
theorem dX7_beginObject_25 : decode cX7_beginObject 25 = .ok (.ireturn, 1) := by decide +kernel
theorem dX7_beginObject_26 : decode cX7_beginObject 26 = .ok (.aload_n 0, 1) := by decide +kernel
theorem dX7_beginObject_27 : decode cX7_beginObject 27 = .ok (.getfield 19, 3) := by decide +kernel
theorem dX7_beginObject_30 : decode cX7_beginObject 30 = .ok (.iload_n 1, 1) := by decide +kernel
theorem dX7_beginObject_31 : decode cX7_beginObject 31 = .ok (.invokevirtual 47, 3) := by decide +kernel
theorem dX7_beginObject_34 : decode cX7_beginObject 34 = .ok (.ifCond .eq 15, 3) := by decide +kernel
theorem dX7_beginObject_37 : decode cX7_beginObject 37 = .ok (.aload_n 0, 1) := by decide +kernel
theorem dX7_beginObject_38 : decode cX7_beginObject 38 = .ok (.bipush 40, 2) := by decide +kernel
theorem dX7_beginObject_40 : decode cX7_beginObject 40 = .ok (.invokevirtual 40, 3) := by decide +kernel
theorem dX7_beginObject_43 : decode cX7_beginObject 43 = .ok (.aload_n 0, 1) := by decide +kernel
theorem dX7_beginObject_44 : decode cX7_beginObject 44 = .ok (.iload_n 1, 1) := by decide +kernel
theorem dX7_beginObject_45 : decode cX7_beginObject 45 = .ok (.invokevirtual 50, 3) := by decide +kernel
theorem dX7_beginObject_48 : decode cX7_beginObject 48 = .ok (.ireturn, 1) := by decide +kernel
theorem dX7_beginObject_49 : decode cX7_beginObject 49 = .ok (.aload_n 0, 1) := by decide +kernel
theorem dX7_beginObject_50 : decode cX7_beginObject 50 = .ok (.iload_n 1, 1) := by decide +kernel
theorem dX7_beginObject_51 : decode cX7_beginObject 51 = .ok (.invokevirtual 53, 3) := by decide +kernel
theorem dX7_beginObject_54 : decode cX7_beginObject 54 = .ok (.aload_n 0, 1) := by decide +kernel
theorem dX7_beginObject_55 : decode cX7_beginObject 55 = .ok (.invokevirtual 57, 3) := by decide +kernel
theorem dX7_beginObject_58 : decode cX7_beginObject 58 = .ok (.ireturn, 1) := by decide +kernel
theorem dX7_beginRest_0 : decode cX7_beginRest 0 = .ok (.aload_n 0, 1) := by decide +kernel
theorem dX7_beginRest_1 : decode cX7_beginRest 1 = .ok (.getfield 27, 3) := by decide +kernel
theorem dX7_beginRest_4 : decode cX7_beginRest 4 = .ok (.sipush 2000, 3) := by decide +kernel
theorem dX7_beginRest_7 : decode cX7_beginRest 7 = .ok (.if_icmp .ge 30, 3) := by decide +kernel
theorem dX7_beginRest_10 : decode cX7_beginRest 10 = .ok (.aload_n 0, 1) := by decide +kernel
theorem dX7_beginRest_11 : decode cX7_beginRest 11 = .ok (.getfield 15, 3) := by decide +kernel
theorem dX7_beginRest_14 : decode cX7_beginRest 14 = .ok (.aload_n 0, 1) := by decide +kernel
theorem dX7_beginRest_15 : decode cX7_beginRest 15 = .ok (.getfield 27, 3) := by decide +kernel
theorem dX7_beginRest_18 : decode cX7_beginRest 18 = .ok (.aload_n 0, 1) := by decide +kernel
theorem dX7_beginRest_19 : decode cX7_beginRest 19 = .ok (.getfield 19, 3) := by decide +kernel
theorem dX7_beginRest_22 : decode cX7_beginRest 22 = .ok (.iload_n 1, 1) := by decide +kernel
theorem dX7_beginRest_23 : decode cX7_beginRest 23 = .ok (.invokevirtual 61, 3) := by decide +kernel
theorem dX7_beginRest_26 : decode cX7_beginRest 26 = .ok (.iastore, 1) := by decide +kernel
theorem dX7_beginRest_27 : decode cX7_beginRest 27 = .ok (.aload_n 0, 1) := by decide +kernel
theorem dX7_beginRest_28 : decode cX7_beginRest 28 = .ok (.dup, 1) := by decide +kernel
theorem dX7_beginRest_29 : decode cX7_beginRest 29 = .ok (.getfield 27, 3) := by decide +kernel
theorem dX7_beginRest_32 : decode cX7_beginRest 32 = .ok (.iconst 1, 1) := by decide +kernel
theorem dX7_beginRest_33 : decode cX7_beginRest 33 = .ok (.iadd, 1) := by decide +kernel
theorem dX7_beginRest_34 : decode cX7_beginRest 34 = .ok (.putfield 27, 3) := by decide +kernel
theorem dX7_beginRest_37 : decode cX7_beginRest 37 = .ok (.aload_n 0, 1) := by decide +kernel
theorem dX7_beginRest_38 : decode cX7_beginRest 38 = .ok (.getfield 19, 3) := by decide +kernel
theorem dX7_beginRest_41 : decode cX7_beginRest 41 = .ok (.iload_n 1, 1) := by decide +kernel
theorem dX7_beginRest_42 : decode cX7_beginRest 42 = .ok (.invokevirtual 64, 3) := by decide +kernel
theorem dX7_beginRest_45 : decode cX7_beginRest 45 = .ok (.ireturn, 1) := by decide +kernel
theorem dX7_goOn_0 : decode cX7_goOn 0 = .ok (.aload_n 0, 1) := by decide +kernel
theorem dX7_goOn_1 : decode cX7_goOn 1 = .ok (.getfield 27, 3) := by decide +kernel
theorem dX7_goOn_4 : decode cX7_goOn 4 = .ok (.ifCond .le 82, 3) := by decide +kernel
theorem dX7_goOn_7 : decode cX7_goOn 7 = .ok (.aload_n 0, 1) := by decide +kernel
theorem dX7_goOn_8 : decode cX7_goOn 8 = .ok (.dup, 1) := by decide +kernel
theorem dX7_goOn_9 : decode cX7_goOn 9 = .ok (.getfield 27, 3) := by decide +kernel
theorem dX7_goOn_12 : decode cX7_goOn 12 = .ok (.iconst 1, 1) := by decide +kernel
theorem dX7_goOn_13 : decode cX7_goOn 13 = .ok (.isub, 1) := by decide +kernel
theorem dX7_goOn_14 : decode cX7_goOn 14 = .ok (.putfield 27, 3) := by decide +kernel
theorem dX7_goOn_17 : decode cX7_goOn 17 = .ok (.aload_n 0, 1) := by decide +kernel
theorem dX7_goOn_18 : decode cX7_goOn 18 = .ok (.getfield 15, 3) := by decide +kernel
theorem dX7_goOn_21 : decode cX7_goOn 21 = .ok (.aload_n 0, 1) := by decide +kernel
theorem dX7_goOn_22 : decode cX7_goOn 22 = .ok (.getfield 27, 3) := by decide +kernel
theorem dX7_goOn_25 : decode cX7_goOn 25 = .ok (.iaload, 1) := by decide +kernel
theorem dX7_goOn_26 : decode cX7_goOn 26 = .ok (.istore_n 1, 1) := by decide +kernel
theorem dX7_goOn_27 : decode cX7_goOn 27 = .ok (.aload_n 0, 1) := by decide +kernel
theorem dX7_goOn_28 : decode cX7_goOn 28 = .ok (.getfield 19, 3) := by decide +kernel
theorem dX7_goOn_31 : decode cX7_goOn 31 = .ok (.iload_n 1, 1) := by decide +kernel
theorem dX7_goOn_32 : decode cX7_goOn 32 = .ok (.invokevirtual 47, 3) := by decide +kernel
theorem dX7_goOn_35 : decode cX7_goOn 35 = .ok (.ifCond .eq 15, 3) := by decide +kernel
theorem dX7_goOn_38 : decode cX7_goOn 38 = .ok (.aload_n 0, 1) := by decide +kernel
theorem dX7_goOn_39 : decode cX7_goOn 39 = .ok (.bipush 32, 2) := by decide +kernel
theorem dX7_goOn_41 : decode cX7_goOn 41 = .ok (.invokevirtual 40, 3) := by decide +kernel
theorem dX7_goOn_44 : decode cX7_goOn 44 = .ok (.aload_n 0, 1) := by decide +kernel
theorem dX7_goOn_45 : decode cX7_goOn 45 = .ok (.iload_n 1, 1) := by decide +kernel
theorem dX7_goOn_46 : decode cX7_goOn 46 = .ok (.invokevirtual 50, 3) := by decide +kernel
theorem dX7_goOn_49 : decode cX7_goOn 49 = .ok (.ireturn, 1) := by decide +kernel
theorem dX7_goOn_50 : decode cX7_goOn 50 = .ok (.iload_n 1, 1) := by decide +kernel
theorem dX7_goOn_51 : decode cX7_goOn 51 = .ok (.ifCond .eq 26, 3) := by decide +kernel
theorem dX7_goOn_54 : decode cX7_goOn 54 = .ok (.aload_n 0, 1) := by decide +kernel
theorem dX7_goOn_55 : decode cX7_goOn 55 = .ok (.bipush 32, 2) := by decide +kernel
theorem dX7_goOn_57 : decode cX7_goOn 57 = .ok (.invokevirtual 40, 3) := by decide +kernel
theorem dX7_goOn_60 : decode cX7_goOn 60 = .ok (.aload_n 0, 1) := by decide +kernel
theorem dX7_goOn_61 : decode cX7_goOn 61 = .ok (.bipush 46, 2) := by decide +kernel
theorem dX7_goOn_63 : decode cX7_goOn 63 = .ok (.invokevirtual 40, 3) := by decide +kernel
theorem dX7_goOn_66 : decode cX7_goOn 66 = .ok (.aload_n 0, 1) := by decide +kernel
theorem dX7_goOn_67 : decode cX7_goOn 67 = .ok (.bipush 32, 2) := by decide +kernel
theorem dX7_goOn_69 : decode cX7_goOn 69 = .ok (.invokevirtual 40, 3) := by decide +kernel
theorem dX7_goOn_72 : decode cX7_goOn 72 = .ok (.aload_n 0, 1) := by decide +kernel
theorem dX7_goOn_73 : decode cX7_goOn 73 = .ok (.iload_n 1, 1) := by decide +kernel
theorem dX7_goOn_74 : decode cX7_goOn 74 = .ok (.invokevirtual 53, 3) := by decide +kernel
theorem dX7_goOn_77 : decode cX7_goOn 77 = .ok (.aload_n 0, 1) := by decide +kernel
theorem dX7_goOn_78 : decode cX7_goOn 78 = .ok (.bipush 41, 2) := by decide +kernel
theorem dX7_goOn_80 : decode cX7_goOn 80 = .ok (.invokevirtual 40, 3) := by decide +kernel
theorem dX7_goOn_83 : decode cX7_goOn 83 = .ok (.goto (-83), 3) := by decide +kernel
theorem dX7_goOn_86 : decode cX7_goOn 86 = .ok (.iconst (-1), 1) := by decide +kernel
theorem dX7_goOn_87 : decode cX7_goOn 87 = .ok (.ireturn, 1) := by decide +kernel
theorem dX7_putAtom_0 : decode cX7_putAtom 0 = .ok (.aload_n 0, 1) := by decide +kernel
theorem dX7_putAtom_1 : decode cX7_putAtom 1 = .ok (.getfield 19, 3) := by decide +kernel
theorem dX7_putAtom_4 : decode cX7_putAtom 4 = .ok (.iload_n 1, 1) := by decide +kernel
theorem dX7_putAtom_5 : decode cX7_putAtom 5 = .ok (.invokevirtual 67, 3) := by decide +kernel
theorem dX7_putAtom_8 : decode cX7_putAtom 8 = .ok (.ifCond .eq 18, 3) := by decide +kernel
theorem dX7_putAtom_11 : decode cX7_putAtom 11 = .ok (.aload_n 0, 1) := by decide +kernel
theorem dX7_putAtom_12 : decode cX7_putAtom 12 = .ok (.aload_n 0, 1) := by decide +kernel
theorem dX7_putAtom_13 : decode cX7_putAtom 13 = .ok (.getfield 19, 3) := by decide +kernel
theorem dX7_putAtom_16 : decode cX7_putAtom 16 = .ok (.iload_n 1, 1) := by decide +kernel
theorem dX7_putAtom_17 : decode cX7_putAtom 17 = .ok (.invokevirtual 70, 3) := by decide +kernel
theorem dX7_putAtom_20 : decode cX7_putAtom 20 = .ok (.invokevirtual 74, 3) := by decide +kernel
theorem dX7_putAtom_23 : decode cX7_putAtom 23 = .ok (.goto 15, 3) := by decide +kernel
theorem dX7_putAtom_26 : decode cX7_putAtom 26 = .ok (.aload_n 0, 1) := by decide +kernel
theorem dX7_putAtom_27 : decode cX7_putAtom 27 = .ok (.aload_n 0, 1) := by decide +kernel
theorem dX7_putAtom_28 : decode cX7_putAtom 28 = .ok (.getfield 19, 3) := by decide +kernel
theorem dX7_putAtom_31 : decode cX7_putAtom 31 = .ok (.iload_n 1, 1) := by decide +kernel
theorem dX7_putAtom_32 : decode cX7_putAtom 32 = .ok (.invokevirtual 78, 3) := by decide +kernel
theorem dX7_putAtom_35 : decode cX7_putAtom 35 = .ok (.invokevirtual 81, 3) := by decide +kernel
theorem dX7_putAtom_38 : decode cX7_putAtom 38 = .ok (.return_, 1) := by decide +kernel
theorem dX7_putNatural_0 : decode cX7_putNatural 0 = .ok (.ldc2_w 84, 3) := by decide +kernel
theorem dX7_putNatural_3 : decode cX7_putNatural 3 = .ok (.lstore_n 3, 1) := by decide +kernel
theorem dX7_putNatural_4 : decode cX7_putNatural 4 = .ok (.lload_n 3, 1) := by decide +kernel
theorem dX7_putNatural_5 : decode cX7_putNatural 5 = .ok (.lconst 0, 1) := by decide +kernel
theorem dX7_putNatural_6 : decode cX7_putNatural 6 = .ok (.lcmp, 1) := by decide +kernel
theorem dX7_putNatural_7 : decode cX7_putNatural 7 = .ok (.ifCond .le 41, 3) := by decide +kernel
theorem dX7_putNatural_10 : decode cX7_putNatural 10 = .ok (.lload_n 1, 1) := by decide +kernel
theorem dX7_putNatural_11 : decode cX7_putNatural 11 = .ok (.lload_n 3, 1) := by decide +kernel
theorem dX7_putNatural_12 : decode cX7_putNatural 12 = .ok (.lcmp, 1) := by decide +kernel
theorem dX7_putNatural_13 : decode cX7_putNatural 13 = .ok (.ifCond .ge 9, 3) := by decide +kernel
theorem dX7_putNatural_16 : decode cX7_putNatural 16 = .ok (.lload_n 3, 1) := by decide +kernel
theorem dX7_putNatural_17 : decode cX7_putNatural 17 = .ok (.lconst 1, 1) := by decide +kernel
theorem dX7_putNatural_18 : decode cX7_putNatural 18 = .ok (.lcmp, 1) := by decide +kernel
theorem dX7_putNatural_19 : decode cX7_putNatural 19 = .ok (.ifCond .ne 20, 3) := by decide +kernel
theorem dX7_putNatural_22 : decode cX7_putNatural 22 = .ok (.aload_n 0, 1) := by decide +kernel
theorem dX7_putNatural_23 : decode cX7_putNatural 23 = .ok (.ldc2_w 86, 3) := by decide +kernel
theorem dX7_putNatural_26 : decode cX7_putNatural 26 = .ok (.lload_n 1, 1) := by decide +kernel
theorem dX7_putNatural_27 : decode cX7_putNatural 27 = .ok (.lload_n 3, 1) := by decide +kernel
theorem dX7_putNatural_28 : decode cX7_putNatural 28 = .ok (.ldiv, 1) := by decide +kernel
theorem dX7_putNatural_29 : decode cX7_putNatural 29 = .ok (.ldc2_w 88, 3) := by decide +kernel
theorem dX7_putNatural_32 : decode cX7_putNatural 32 = .ok (.lrem, 1) := by decide +kernel
theorem dX7_putNatural_33 : decode cX7_putNatural 33 = .ok (.ladd, 1) := by decide +kernel
theorem dX7_putNatural_34 : decode cX7_putNatural 34 = .ok (.l2i, 1) := by decide +kernel
theorem dX7_putNatural_35 : decode cX7_putNatural 35 = .ok (.i2c, 1) := by decide +kernel
theorem dX7_putNatural_36 : decode cX7_putNatural 36 = .ok (.invokevirtual 40, 3) := by decide +kernel
theorem dX7_putNatural_39 : decode cX7_putNatural 39 = .ok (.lload_n 3, 1) := by decide +kernel
theorem dX7_putNatural_40 : decode cX7_putNatural 40 = .ok (.ldc2_w 88, 3) := by decide +kernel
theorem dX7_putNatural_43 : decode cX7_putNatural 43 = .ok (.ldiv, 1) := by decide +kernel
theorem dX7_putNatural_44 : decode cX7_putNatural 44 = .ok (.lstore_n 3, 1) := by decide +kernel
theorem dX7_putNatural_45 : decode cX7_putNatural 45 = .ok (.goto (-41), 3) := by decide +kernel
theorem dX7_putNatural_48 : decode cX7_putNatural 48 = .ok (.return_, 1) := by decide +kernel
theorem dX7_putSymbol_0 : decode cX7_putSymbol 0 = .ok (.ldc2_w 90, 3) := by decide +kernel
theorem dX7_putSymbol_3 : decode cX7_putSymbol 3 = .ok (.lstore_n 3, 1) := by decide +kernel
theorem dX7_putSymbol_4 : decode cX7_putSymbol 4 = .ok (.lload_n 3, 1) := by decide +kernel
theorem dX7_putSymbol_5 : decode cX7_putSymbol 5 = .ok (.lconst 0, 1) := by decide +kernel
theorem dX7_putSymbol_6 : decode cX7_putSymbol 6 = .ok (.lcmp, 1) := by decide +kernel
theorem dX7_putSymbol_7 : decode cX7_putSymbol 7 = .ok (.ifCond .le 35, 3) := by decide +kernel
theorem dX7_putSymbol_10 : decode cX7_putSymbol 10 = .ok (.lload_n 1, 1) := by decide +kernel
theorem dX7_putSymbol_11 : decode cX7_putSymbol 11 = .ok (.lload_n 3, 1) := by decide +kernel
theorem dX7_putSymbol_12 : decode cX7_putSymbol 12 = .ok (.lcmp, 1) := by decide +kernel
theorem dX7_putSymbol_13 : decode cX7_putSymbol 13 = .ok (.ifCond .lt 20, 3) := by decide +kernel
theorem dX7_putSymbol_16 : decode cX7_putSymbol 16 = .ok (.aload_n 0, 1) := by decide +kernel
theorem dX7_putSymbol_17 : decode cX7_putSymbol 17 = .ok (.ldc 92, 2) := by decide +kernel
theorem dX7_putSymbol_19 : decode cX7_putSymbol 19 = .ok (.lload_n 1, 1) := by decide +kernel
theorem dX7_putSymbol_20 : decode cX7_putSymbol 20 = .ok (.lload_n 3, 1) := by decide +kernel
theorem dX7_putSymbol_21 : decode cX7_putSymbol 21 = .ok (.ldiv, 1) := by decide +kernel
theorem dX7_putSymbol_22 : decode cX7_putSymbol 22 = .ok (.ldc2_w 94, 3) := by decide +kernel
theorem dX7_putSymbol_25 : decode cX7_putSymbol 25 = .ok (.lrem, 1) := by decide +kernel
theorem dX7_putSymbol_26 : decode cX7_putSymbol 26 = .ok (.l2i, 1) := by decide +kernel
theorem dX7_putSymbol_27 : decode cX7_putSymbol 27 = .ok (.invokevirtual 96, 3) := by decide +kernel
theorem dX7_putSymbol_30 : decode cX7_putSymbol 30 = .ok (.invokevirtual 40, 3) := by decide +kernel
theorem dX7_putSymbol_33 : decode cX7_putSymbol 33 = .ok (.lload_n 3, 1) := by decide +kernel
theorem dX7_putSymbol_34 : decode cX7_putSymbol 34 = .ok (.ldc2_w 94, 3) := by decide +kernel
theorem dX7_putSymbol_37 : decode cX7_putSymbol 37 = .ok (.ldiv, 1) := by decide +kernel
theorem dX7_putSymbol_38 : decode cX7_putSymbol 38 = .ok (.lstore_n 3, 1) := by decide +kernel
theorem dX7_putSymbol_39 : decode cX7_putSymbol 39 = .ok (.goto (-35), 3) := by decide +kernel
theorem dX7_putSymbol_42 : decode cX7_putSymbol 42 = .ok (.return_, 1) := by decide +kernel
theorem dX7_put_0 : decode cX7_put 0 = .ok (.aload_n 0, 1) := by decide +kernel
theorem dX7_put_1 : decode cX7_put 1 = .ok (.getfield 23, 3) := by decide +kernel
theorem dX7_put_4 : decode cX7_put 4 = .ok (.sipush 2000, 3) := by decide +kernel
theorem dX7_put_7 : decode cX7_put 7 = .ok (.if_icmp .ge 23, 3) := by decide +kernel
theorem dX7_put_10 : decode cX7_put 10 = .ok (.aload_n 0, 1) := by decide +kernel
theorem dX7_put_11 : decode cX7_put 11 = .ok (.getfield 9, 3) := by decide +kernel
theorem dX7_put_14 : decode cX7_put 14 = .ok (.aload_n 0, 1) := by decide +kernel
theorem dX7_put_15 : decode cX7_put 15 = .ok (.getfield 23, 3) := by decide +kernel
theorem dX7_put_18 : decode cX7_put 18 = .ok (.iload_n 1, 1) := by decide +kernel
theorem dX7_put_19 : decode cX7_put 19 = .ok (.castore, 1) := by decide +kernel
theorem dX7_put_20 : decode cX7_put 20 = .ok (.aload_n 0, 1) := by decide +kernel
theorem dX7_put_21 : decode cX7_put 21 = .ok (.dup, 1) := by decide +kernel
theorem dX7_put_22 : decode cX7_put 22 = .ok (.getfield 23, 3) := by decide +kernel
theorem dX7_put_25 : decode cX7_put 25 = .ok (.iconst 1, 1) := by decide +kernel
theorem dX7_put_26 : decode cX7_put 26 = .ok (.iadd, 1) := by decide +kernel
theorem dX7_put_27 : decode cX7_put 27 = .ok (.putfield 23, 3) := by decide +kernel
theorem dX7_put_30 : decode cX7_put 30 = .ok (.return_, 1) := by decide +kernel
theorem dX8_init_0 : decode cX8_init 0 = .ok (.aload_n 0, 1) := by decide +kernel
theorem dX8_init_1 : decode cX8_init 1 = .ok (.invokespecial 3, 3) := by decide +kernel
theorem dX8_init_4 : decode cX8_init 4 = .ok (.aload_n 0, 1) := by decide +kernel
theorem dX8_init_5 : decode cX8_init 5 = .ok (.bipush 120, 2) := by decide +kernel
theorem dX8_init_7 : decode cX8_init 7 = .ok (.newarray .int, 2) := by decide +kernel
theorem dX8_init_9 : decode cX8_init 9 = .ok (.putfield 9, 3) := by decide +kernel
theorem dX8_init_12 : decode cX8_init 12 = .ok (.aload_n 0, 1) := by decide +kernel
theorem dX8_init_13 : decode cX8_init 13 = .ok (.aload_n 1, 1) := by decide +kernel
theorem dX8_init_14 : decode cX8_init 14 = .ok (.putfield 15, 3) := by decide +kernel
theorem dX8_init_17 : decode cX8_init 17 = .ok (.aload_n 0, 1) := by decide +kernel
theorem dX8_init_18 : decode cX8_init 18 = .ok (.aload_n 2, 1) := by decide +kernel
theorem dX8_init_19 : decode cX8_init 19 = .ok (.putfield 19, 3) := by decide +kernel
theorem dX8_init_22 : decode cX8_init 22 = .ok (.return_, 1) := by decide +kernel
theorem dX8_isTerm_0 : decode cX8_isTerm 0 = .ok (.aload_n 0, 1) := by decide +kernel
theorem dX8_isTerm_1 : decode cX8_isTerm 1 = .ok (.iload_n 1, 1) := by decide +kernel
theorem dX8_isTerm_2 : decode cX8_isTerm 2 = .ok (.invokevirtual 23, 3) := by decide +kernel
theorem dX8_isTerm_5 : decode cX8_isTerm 5 = .ok (.iconst 0, 1) := by decide +kernel
theorem dX8_isTerm_6 : decode cX8_isTerm 6 = .ok (.istore 5, 2) := by decide +kernel
theorem dX8_isTerm_8 : decode cX8_isTerm 8 = .ok (.iload 5, 2) := by decide +kernel
theorem dX8_isTerm_10 : decode cX8_isTerm 10 = .ok (.aload_n 0, 1) := by decide +kernel
theorem dX8_isTerm_11 : decode cX8_isTerm 11 = .ok (.getfield 27, 3) := by decide +kernel
theorem dX8_isTerm_14 : decode cX8_isTerm 14 = .ok (.if_icmp .ge 144, 3) := by decide +kernel
theorem dX8_isTerm_17 : decode cX8_isTerm 17 = .ok (.iload 5, 2) := by decide +kernel
theorem dX8_isTerm_19 : decode cX8_isTerm 19 = .ok (.bipush 120, 2) := by decide +kernel
theorem dX8_isTerm_21 : decode cX8_isTerm 21 = .ok (.if_icmp .ge 137, 3) := by decide +kernel
theorem dX8_isTerm_24 : decode cX8_isTerm 24 = .ok (.aload_n 0, 1) := by decide +kernel
theorem dX8_isTerm_25 : decode cX8_isTerm 25 = .ok (.getfield 9, 3) := by decide +kernel
theorem dX8_isTerm_28 : decode cX8_isTerm 28 = .ok (.iload 5, 2) := by decide +kernel
theorem dX8_isTerm_30 : decode cX8_isTerm 30 = .ok (.iaload, 1) := by decide +kernel
theorem dX8_isTerm_31 : decode cX8_isTerm 31 = .ok (.istore 6, 2) := by decide +kernel
theorem dX8_isTerm_33 : decode cX8_isTerm 33 = .ok (.aload_n 0, 1) := by decide +kernel
theorem dX8_isTerm_34 : decode cX8_isTerm 34 = .ok (.getfield 15, 3) := by decide +kernel
theorem dX8_isTerm_37 : decode cX8_isTerm 37 = .ok (.iload 6, 2) := by decide +kernel
theorem dX8_isTerm_39 : decode cX8_isTerm 39 = .ok (.invokevirtual 31, 3) := by decide +kernel
theorem dX8_isTerm_42 : decode cX8_isTerm 42 = .ok (.ifCond .eq 18, 3) := by decide +kernel
theorem dX8_isTerm_45 : decode cX8_isTerm 45 = .ok (.aload_n 0, 1) := by decide +kernel
theorem dX8_isTerm_46 : decode cX8_isTerm 46 = .ok (.getfield 15, 3) := by decide +kernel
theorem dX8_isTerm_49 : decode cX8_isTerm 49 = .ok (.iload 6, 2) := by decide +kernel
theorem dX8_isTerm_51 : decode cX8_isTerm 51 = .ok (.iload_n 2, 1) := by decide +kernel
theorem dX8_isTerm_52 : decode cX8_isTerm 52 = .ok (.invokevirtual 37, 3) := by decide +kernel
theorem dX8_isTerm_55 : decode cX8_isTerm 55 = .ok (.ifCond .ne 97, 3) := by decide +kernel
theorem dX8_isTerm_58 : decode cX8_isTerm 58 = .ok (.iconst 0, 1) := by decide +kernel
theorem dX8_isTerm_59 : decode cX8_isTerm 59 = .ok (.ireturn, 1) := by decide +kernel
theorem dX8_isTerm_60 : decode cX8_isTerm 60 = .ok (.aload_n 0, 1) := by decide +kernel
theorem dX8_isTerm_61 : decode cX8_isTerm 61 = .ok (.getfield 15, 3) := by decide +kernel
theorem dX8_isTerm_64 : decode cX8_isTerm 64 = .ok (.iload 6, 2) := by decide +kernel
theorem dX8_isTerm_66 : decode cX8_isTerm 66 = .ok (.invokevirtual 41, 3) := by decide +kernel
theorem dX8_isTerm_69 : decode cX8_isTerm 69 = .ok (.ifCond .eq 83, 3) := by decide +kernel
theorem dX8_isTerm_72 : decode cX8_isTerm 72 = .ok (.aload_n 0, 1) := by decide +kernel
theorem dX8_isTerm_73 : decode cX8_isTerm 73 = .ok (.getfield 15, 3) := by decide +kernel
theorem dX8_isTerm_76 : decode cX8_isTerm 76 = .ok (.iload 6, 2) := by decide +kernel
theorem dX8_isTerm_78 : decode cX8_isTerm 78 = .ok (.invokevirtual 44, 3) := by decide +kernel
theorem dX8_isTerm_81 : decode cX8_isTerm 81 = .ok (.ifCond .ne 71, 3) := by decide +kernel
theorem dX8_isTerm_84 : decode cX8_isTerm 84 = .ok (.aload_n 0, 1) := by decide +kernel
theorem dX8_isTerm_85 : decode cX8_isTerm 85 = .ok (.getfield 15, 3) := by decide +kernel
theorem dX8_isTerm_88 : decode cX8_isTerm 88 = .ok (.iload 6, 2) := by decide +kernel
theorem dX8_isTerm_90 : decode cX8_isTerm 90 = .ok (.invokevirtual 47, 3) := by decide +kernel
theorem dX8_isTerm_93 : decode cX8_isTerm 93 = .ok (.istore 7, 2) := by decide +kernel
theorem dX8_isTerm_95 : decode cX8_isTerm 95 = .ok (.iload 7, 2) := by decide +kernel
theorem dX8_isTerm_97 : decode cX8_isTerm 97 = .ok (.iload_n 3, 1) := by decide +kernel
theorem dX8_isTerm_98 : decode cX8_isTerm 98 = .ok (.if_icmp .ne 8, 3) := by decide +kernel
theorem dX8_isTerm_101 : decode cX8_isTerm 101 = .ok (.iload 4, 2) := by decide +kernel
theorem dX8_isTerm_103 : decode cX8_isTerm 103 = .ok (.goto 9, 3) := by decide +kernel
theorem dX8_isTerm_106 : decode cX8_isTerm 106 = .ok (.aload_n 0, 1) := by decide +kernel
theorem dX8_isTerm_107 : decode cX8_isTerm 107 = .ok (.iload 7, 2) := by decide +kernel
theorem dX8_isTerm_109 : decode cX8_isTerm 109 = .ok (.invokevirtual 51, 3) := by decide +kernel
theorem dX8_isTerm_112 : decode cX8_isTerm 112 = .ok (.istore 8, 2) := by decide +kernel
theorem dX8_isTerm_114 : decode cX8_isTerm 114 = .ok (.iload 8, 2) := by decide +kernel
theorem dX8_isTerm_116 : decode cX8_isTerm 116 = .ok (.iconst (-1), 1) := by decide +kernel
theorem dX8_isTerm_117 : decode cX8_isTerm 117 = .ok (.if_icmp .eq 33, 3) := by decide +kernel
theorem dX8_isTerm_120 : decode cX8_isTerm 120 = .ok (.iload 8, 2) := by decide +kernel
theorem dX8_isTerm_122 : decode cX8_isTerm 122 = .ok (.aload_n 0, 1) := by decide +kernel
theorem dX8_isTerm_123 : decode cX8_isTerm 123 = .ok (.getfield 15, 3) := by decide +kernel
theorem dX8_isTerm_126 : decode cX8_isTerm 126 = .ok (.aload_n 0, 1) := by decide +kernel
theorem dX8_isTerm_127 : decode cX8_isTerm 127 = .ok (.getfield 15, 3) := by decide +kernel
theorem dX8_isTerm_130 : decode cX8_isTerm 130 = .ok (.iload 6, 2) := by decide +kernel
theorem dX8_isTerm_132 : decode cX8_isTerm 132 = .ok (.invokevirtual 54, 3) := by decide +kernel
theorem dX8_isTerm_135 : decode cX8_isTerm 135 = .ok (.invokevirtual 57, 3) := by decide +kernel
theorem dX8_isTerm_138 : decode cX8_isTerm 138 = .ok (.if_icmp .ne 12, 3) := by decide +kernel
theorem dX8_isTerm_141 : decode cX8_isTerm 141 = .ok (.aload_n 0, 1) := by decide +kernel
theorem dX8_isTerm_142 : decode cX8_isTerm 142 = .ok (.iload 6, 2) := by decide +kernel
theorem dX8_isTerm_144 : decode cX8_isTerm 144 = .ok (.invokevirtual 60, 3) := by decide +kernel
theorem dX8_isTerm_147 : decode cX8_isTerm 147 = .ok (.ifCond .ne 5, 3) := by decide +kernel
theorem dX8_isTerm_150 : decode cX8_isTerm 150 = .ok (.iconst 0, 1) := by decide +kernel
theorem dX8_isTerm_151 : decode cX8_isTerm 151 = .ok (.ireturn, 1) := by decide +kernel
theorem dX8_isTerm_152 : decode cX8_isTerm 152 = .ok (.iinc 5 1, 3) := by decide +kernel
theorem dX8_isTerm_155 : decode cX8_isTerm 155 = .ok (.goto (-147), 3) := by decide +kernel
theorem dX8_isTerm_158 : decode cX8_isTerm 158 = .ok (.iconst 1, 1) := by decide +kernel
theorem dX8_isTerm_159 : decode cX8_isTerm 159 = .ok (.ireturn, 1) := by decide +kernel
theorem dX8_isCalled_0 : decode cX8_isCalled 0 = .ok (.aload_n 0, 1) := by decide +kernel
theorem dX8_isCalled_1 : decode cX8_isCalled 1 = .ok (.iload_n 2, 1) := by decide +kernel
theorem dX8_isCalled_2 : decode cX8_isCalled 2 = .ok (.invokevirtual 63, 3) := by decide +kernel
theorem dX8_isCalled_5 : decode cX8_isCalled 5 = .ok (.iconst 0, 1) := by decide +kernel
theorem dX8_isCalled_6 : decode cX8_isCalled 6 = .ok (.istore_n 3, 1) := by decide +kernel
theorem dX8_isCalled_7 : decode cX8_isCalled 7 = .ok (.iload_n 3, 1) := by decide +kernel
theorem dX8_isCalled_8 : decode cX8_isCalled 8 = .ok (.aload_n 0, 1) := by decide +kernel
theorem dX8_isCalled_9 : decode cX8_isCalled 9 = .ok (.getfield 27, 3) := by decide +kernel
theorem dX8_isCalled_12 : decode cX8_isCalled 12 = .ok (.if_icmp .ge 47, 3) := by decide +kernel
theorem dX8_isCalled_15 : decode cX8_isCalled 15 = .ok (.iload_n 3, 1) := by decide +kernel
theorem dX8_isCalled_16 : decode cX8_isCalled 16 = .ok (.bipush 120, 2) := by decide +kernel
theorem dX8_isCalled_18 : decode cX8_isCalled 18 = .ok (.if_icmp .ge 41, 3) := by decide +kernel
theorem dX8_isCalled_21 : decode cX8_isCalled 21 = .ok (.aload_n 0, 1) := by decide +kernel
theorem dX8_isCalled_22 : decode cX8_isCalled 22 = .ok (.aload_n 0, 1) := by decide +kernel
theorem dX8_isCalled_23 : decode cX8_isCalled 23 = .ok (.getfield 9, 3) := by decide +kernel
theorem dX8_isCalled_26 : decode cX8_isCalled 26 = .ok (.iload_n 3, 1) := by decide +kernel
theorem dX8_isCalled_27 : decode cX8_isCalled 27 = .ok (.iaload, 1) := by decide +kernel
theorem dX8_isCalled_28 : decode cX8_isCalled 28 = .ok (.invokevirtual 66, 3) := by decide +kernel
theorem dX8_isCalled_31 : decode cX8_isCalled 31 = .ok (.ifCond .eq 22, 3) := by decide +kernel
theorem dX8_isCalled_34 : decode cX8_isCalled 34 = .ok (.aload_n 0, 1) := by decide +kernel
theorem dX8_isCalled_35 : decode cX8_isCalled 35 = .ok (.getfield 15, 3) := by decide +kernel
theorem dX8_isCalled_38 : decode cX8_isCalled 38 = .ok (.aload_n 0, 1) := by decide +kernel
theorem dX8_isCalled_39 : decode cX8_isCalled 39 = .ok (.getfield 9, 3) := by decide +kernel
theorem dX8_isCalled_42 : decode cX8_isCalled 42 = .ok (.iload_n 3, 1) := by decide +kernel
theorem dX8_isCalled_43 : decode cX8_isCalled 43 = .ok (.iaload, 1) := by decide +kernel
theorem dX8_isCalled_44 : decode cX8_isCalled 44 = .ok (.invokevirtual 47, 3) := by decide +kernel
theorem dX8_isCalled_47 : decode cX8_isCalled 47 = .ok (.iload_n 1, 1) := by decide +kernel
theorem dX8_isCalled_48 : decode cX8_isCalled 48 = .ok (.if_icmp .ne 5, 3) := by decide +kernel
theorem dX8_isCalled_51 : decode cX8_isCalled 51 = .ok (.iconst 1, 1) := by decide +kernel
theorem dX8_isCalled_52 : decode cX8_isCalled 52 = .ok (.ireturn, 1) := by decide +kernel
theorem dX8_isCalled_53 : decode cX8_isCalled 53 = .ok (.iinc 3 1, 3) := by decide +kernel
theorem dX8_isCalled_56 : decode cX8_isCalled 56 = .ok (.goto (-49), 3) := by decide +kernel
theorem dX8_isCalled_59 : decode cX8_isCalled 59 = .ok (.iconst 0, 1) := by decide +kernel
theorem dX8_isCalled_60 : decode cX8_isCalled 60 = .ok (.ireturn, 1) := by decide +kernel
theorem dX8_plain_0 : decode cX8_plain 0 = .ok (.aload_n 0, 1) := by decide +kernel
theorem dX8_plain_1 : decode cX8_plain 1 = .ok (.iload_n 1, 1) := by decide +kernel
theorem dX8_plain_2 : decode cX8_plain 2 = .ok (.invokevirtual 63, 3) := by decide +kernel
theorem dX8_plain_5 : decode cX8_plain 5 = .ok (.aload_n 0, 1) := by decide +kernel
theorem dX8_plain_6 : decode cX8_plain 6 = .ok (.getfield 27, 3) := by decide +kernel
theorem dX8_plain_9 : decode cX8_plain 9 = .ok (.istore_n 2, 1) := by decide +kernel
theorem dX8_plain_10 : decode cX8_plain 10 = .ok (.aload_n 0, 1) := by decide +kernel
theorem dX8_plain_11 : decode cX8_plain 11 = .ok (.getfield 27, 3) := by decide +kernel
theorem dX8_plain_14 : decode cX8_plain 14 = .ok (.iconst 1, 1) := by decide +kernel
theorem dX8_plain_15 : decode cX8_plain 15 = .ok (.isub, 1) := by decide +kernel
theorem dX8_plain_16 : decode cX8_plain 16 = .ok (.istore_n 3, 1) := by decide +kernel
theorem dX8_plain_17 : decode cX8_plain 17 = .ok (.iload_n 3, 1) := by decide +kernel
theorem dX8_plain_18 : decode cX8_plain 18 = .ok (.ifCond .lt 124, 3) := by decide +kernel
theorem dX8_plain_21 : decode cX8_plain 21 = .ok (.aload_n 0, 1) := by decide +kernel
theorem dX8_plain_22 : decode cX8_plain 22 = .ok (.getfield 9, 3) := by decide +kernel
theorem dX8_plain_25 : decode cX8_plain 25 = .ok (.iload_n 3, 1) := by decide +kernel
theorem dX8_plain_26 : decode cX8_plain 26 = .ok (.iaload, 1) := by decide +kernel
theorem dX8_plain_27 : decode cX8_plain 27 = .ok (.istore 4, 2) := by decide +kernel
theorem dX8_plain_29 : decode cX8_plain 29 = .ok (.aload_n 0, 1) := by decide +kernel
theorem dX8_plain_30 : decode cX8_plain 30 = .ok (.iload 4, 2) := by decide +kernel
theorem dX8_plain_32 : decode cX8_plain 32 = .ok (.invokevirtual 66, 3) := by decide +kernel
theorem dX8_plain_35 : decode cX8_plain 35 = .ok (.ifCond .eq 58, 3) := by decide +kernel
theorem dX8_plain_38 : decode cX8_plain 38 = .ok (.iload_n 2, 1) := by decide +kernel
theorem dX8_plain_39 : decode cX8_plain 39 = .ok (.aload_n 0, 1) := by decide +kernel
theorem dX8_plain_40 : decode cX8_plain 40 = .ok (.getfield 15, 3) := by decide +kernel
theorem dX8_plain_43 : decode cX8_plain 43 = .ok (.aload_n 0, 1) := by decide +kernel
theorem dX8_plain_44 : decode cX8_plain 44 = .ok (.getfield 15, 3) := by decide +kernel
theorem dX8_plain_47 : decode cX8_plain 47 = .ok (.iload 4, 2) := by decide +kernel
theorem dX8_plain_49 : decode cX8_plain 49 = .ok (.invokevirtual 54, 3) := by decide +kernel
theorem dX8_plain_52 : decode cX8_plain 52 = .ok (.invokevirtual 57, 3) := by decide +kernel
theorem dX8_plain_55 : decode cX8_plain 55 = .ok (.isub, 1) := by decide +kernel
theorem dX8_plain_56 : decode cX8_plain 56 = .ok (.istore 5, 2) := by decide +kernel
theorem dX8_plain_58 : decode cX8_plain 58 = .ok (.aload_n 0, 1) := by decide +kernel
theorem dX8_plain_59 : decode cX8_plain 59 = .ok (.getfield 9, 3) := by decide +kernel
theorem dX8_plain_62 : decode cX8_plain 62 = .ok (.iload_n 3, 1) := by decide +kernel
theorem dX8_plain_63 : decode cX8_plain 63 = .ok (.aload_n 0, 1) := by decide +kernel
theorem dX8_plain_64 : decode cX8_plain 64 = .ok (.getfield 15, 3) := by decide +kernel
theorem dX8_plain_67 : decode cX8_plain 67 = .ok (.aload_n 0, 1) := by decide +kernel
theorem dX8_plain_68 : decode cX8_plain 68 = .ok (.getfield 15, 3) := by decide +kernel
theorem dX8_plain_71 : decode cX8_plain 71 = .ok (.iload 4, 2) := by decide +kernel
theorem dX8_plain_73 : decode cX8_plain 73 = .ok (.invokevirtual 47, 3) := by decide +kernel
theorem dX8_plain_76 : decode cX8_plain 76 = .ok (.aload_n 0, 1) := by decide +kernel
theorem dX8_plain_77 : decode cX8_plain 77 = .ok (.iload 5, 2) := by decide +kernel
theorem dX8_plain_79 : decode cX8_plain 79 = .ok (.iload_n 2, 1) := by decide +kernel
theorem dX8_plain_80 : decode cX8_plain 80 = .ok (.invokevirtual 69, 3) := by decide +kernel
theorem dX8_plain_83 : decode cX8_plain 83 = .ok (.invokevirtual 73, 3) := by decide +kernel
theorem dX8_plain_86 : decode cX8_plain 86 = .ok (.iastore, 1) := by decide +kernel
theorem dX8_plain_87 : decode cX8_plain 87 = .ok (.iload 5, 2) := by decide +kernel
theorem dX8_plain_89 : decode cX8_plain 89 = .ok (.istore_n 2, 1) := by decide +kernel
theorem dX8_plain_90 : decode cX8_plain 90 = .ok (.goto 46, 3) := by decide +kernel
theorem dX8_plain_93 : decode cX8_plain 93 = .ok (.aload_n 0, 1) := by decide +kernel
theorem dX8_plain_94 : decode cX8_plain 94 = .ok (.getfield 15, 3) := by decide +kernel
theorem dX8_plain_97 : decode cX8_plain 97 = .ok (.iload 4, 2) := by decide +kernel
theorem dX8_plain_99 : decode cX8_plain 99 = .ok (.invokevirtual 44, 3) := by decide +kernel
theorem dX8_plain_102 : decode cX8_plain 102 = .ok (.ifCond .eq 34, 3) := by decide +kernel
theorem dX8_plain_105 : decode cX8_plain 105 = .ok (.aload_n 0, 1) := by decide +kernel
theorem dX8_plain_106 : decode cX8_plain 106 = .ok (.aload_n 0, 1) := by decide +kernel
theorem dX8_plain_107 : decode cX8_plain 107 = .ok (.getfield 15, 3) := by decide +kernel
theorem dX8_plain_110 : decode cX8_plain 110 = .ok (.iload 4, 2) := by decide +kernel
theorem dX8_plain_112 : decode cX8_plain 112 = .ok (.invokevirtual 76, 3) := by decide +kernel
theorem dX8_plain_115 : decode cX8_plain 115 = .ok (.invokevirtual 79, 3) := by decide +kernel
theorem dX8_plain_118 : decode cX8_plain 118 = .ok (.ifCond .eq 18, 3) := by decide +kernel
theorem dX8_plain_121 : decode cX8_plain 121 = .ok (.aload_n 0, 1) := by decide +kernel
theorem dX8_plain_122 : decode cX8_plain 122 = .ok (.getfield 9, 3) := by decide +kernel
theorem dX8_plain_125 : decode cX8_plain 125 = .ok (.iload_n 3, 1) := by decide +kernel
theorem dX8_plain_126 : decode cX8_plain 126 = .ok (.aload_n 0, 1) := by decide +kernel
theorem dX8_plain_127 : decode cX8_plain 127 = .ok (.getfield 15, 3) := by decide +kernel
theorem dX8_plain_130 : decode cX8_plain 130 = .ok (.iload 4, 2) := by decide +kernel
theorem dX8_plain_132 : decode cX8_plain 132 = .ok (.invokevirtual 76, 3) := by decide +kernel
theorem dX8_plain_135 : decode cX8_plain 135 = .ok (.iastore, 1) := by decide +kernel
theorem dX8_plain_136 : decode cX8_plain 136 = .ok (.iinc 3 (-1), 3) := by decide +kernel
theorem dX8_plain_139 : decode cX8_plain 139 = .ok (.goto (-122), 3) := by decide +kernel
theorem dX8_plain_142 : decode cX8_plain 142 = .ok (.aload_n 0, 1) := by decide +kernel
theorem dX8_plain_143 : decode cX8_plain 143 = .ok (.getfield 9, 3) := by decide +kernel
theorem dX8_plain_146 : decode cX8_plain 146 = .ok (.iconst 0, 1) := by decide +kernel
theorem dX8_plain_147 : decode cX8_plain 147 = .ok (.iaload, 1) := by decide +kernel
theorem dX8_plain_148 : decode cX8_plain 148 = .ok (.ireturn, 1) := by decide +kernel
theorem dX8_startWith_0 : decode cX8_startWith 0 = .ok (.aload_n 0, 1) := by decide +kernel
theorem dX8_startWith_1 : decode cX8_startWith 1 = .ok (.getfield 9, 3) := by decide +kernel
theorem dX8_startWith_4 : decode cX8_startWith 4 = .ok (.iconst 0, 1) := by decide +kernel
theorem dX8_startWith_5 : decode cX8_startWith 5 = .ok (.iload_n 1, 1) := by decide +kernel
theorem dX8_startWith_6 : decode cX8_startWith 6 = .ok (.iastore, 1) := by decide +kernel
theorem dX8_startWith_7 : decode cX8_startWith 7 = .ok (.aload_n 0, 1) := by decide +kernel
theorem dX8_startWith_8 : decode cX8_startWith 8 = .ok (.iconst 1, 1) := by decide +kernel
theorem dX8_startWith_9 : decode cX8_startWith 9 = .ok (.putfield 27, 3) := by decide +kernel
theorem dX8_startWith_12 : decode cX8_startWith 12 = .ok (.return_, 1) := by decide +kernel
theorem dX8_gather_0 : decode cX8_gather 0 = .ok (.aload_n 0, 1) := by decide +kernel
theorem dX8_gather_1 : decode cX8_gather 1 = .ok (.iload_n 1, 1) := by decide +kernel
theorem dX8_gather_2 : decode cX8_gather 2 = .ok (.invokevirtual 23, 3) := by decide +kernel
theorem dX8_gather_5 : decode cX8_gather 5 = .ok (.iconst 0, 1) := by decide +kernel
theorem dX8_gather_6 : decode cX8_gather 6 = .ok (.istore_n 2, 1) := by decide +kernel
theorem dX8_gather_7 : decode cX8_gather 7 = .ok (.iload_n 2, 1) := by decide +kernel
theorem dX8_gather_8 : decode cX8_gather 8 = .ok (.aload_n 0, 1) := by decide +kernel
theorem dX8_gather_9 : decode cX8_gather 9 = .ok (.getfield 27, 3) := by decide +kernel
theorem dX8_gather_12 : decode cX8_gather 12 = .ok (.if_icmp .ge 39, 3) := by decide +kernel
theorem dX8_gather_15 : decode cX8_gather 15 = .ok (.iload_n 2, 1) := by decide +kernel
theorem dX8_gather_16 : decode cX8_gather 16 = .ok (.bipush 120, 2) := by decide +kernel
theorem dX8_gather_18 : decode cX8_gather 18 = .ok (.if_icmp .ge 33, 3) := by decide +kernel
theorem dX8_gather_21 : decode cX8_gather 21 = .ok (.aload_n 0, 1) := by decide +kernel
theorem dX8_gather_22 : decode cX8_gather 22 = .ok (.aload_n 0, 1) := by decide +kernel
theorem dX8_gather_23 : decode cX8_gather 23 = .ok (.getfield 9, 3) := by decide +kernel
theorem dX8_gather_26 : decode cX8_gather 26 = .ok (.iload_n 2, 1) := by decide +kernel
theorem dX8_gather_27 : decode cX8_gather 27 = .ok (.iaload, 1) := by decide +kernel
theorem dX8_gather_28 : decode cX8_gather 28 = .ok (.invokevirtual 66, 3) := by decide +kernel
theorem dX8_gather_31 : decode cX8_gather 31 = .ok (.ifCond .eq 14, 3) := by decide +kernel
theorem dX8_gather_34 : decode cX8_gather 34 = .ok (.aload_n 0, 1) := by decide +kernel
theorem dX8_gather_35 : decode cX8_gather 35 = .ok (.aload_n 0, 1) := by decide +kernel
theorem dX8_gather_36 : decode cX8_gather 36 = .ok (.getfield 9, 3) := by decide +kernel
theorem dX8_gather_39 : decode cX8_gather 39 = .ok (.iload_n 2, 1) := by decide +kernel
theorem dX8_gather_40 : decode cX8_gather 40 = .ok (.iaload, 1) := by decide +kernel
theorem dX8_gather_41 : decode cX8_gather 41 = .ok (.invokevirtual 60, 3) := by decide +kernel
theorem dX8_gather_44 : decode cX8_gather 44 = .ok (.pop, 1) := by decide +kernel
theorem dX8_gather_45 : decode cX8_gather 45 = .ok (.iinc 2 1, 3) := by decide +kernel
theorem dX8_gather_48 : decode cX8_gather 48 = .ok (.goto (-41), 3) := by decide +kernel
theorem dX8_gather_51 : decode cX8_gather 51 = .ok (.return_, 1) := by decide +kernel
theorem dX8_addTermsOf_0 : decode cX8_addTermsOf 0 = .ok (.aload_n 0, 1) := by decide +kernel
theorem dX8_addTermsOf_1 : decode cX8_addTermsOf 1 = .ok (.getfield 15, 3) := by decide +kernel
theorem dX8_addTermsOf_4 : decode cX8_addTermsOf 4 = .ok (.iload_n 1, 1) := by decide +kernel
theorem dX8_addTermsOf_5 : decode cX8_addTermsOf 5 = .ok (.invokevirtual 54, 3) := by decide +kernel
theorem dX8_addTermsOf_8 : decode cX8_addTermsOf 8 = .ok (.istore_n 2, 1) := by decide +kernel
theorem dX8_addTermsOf_9 : decode cX8_addTermsOf 9 = .ok (.aload_n 0, 1) := by decide +kernel
theorem dX8_addTermsOf_10 : decode cX8_addTermsOf 10 = .ok (.getfield 27, 3) := by decide +kernel
theorem dX8_addTermsOf_13 : decode cX8_addTermsOf 13 = .ok (.bipush 120, 2) := by decide +kernel
theorem dX8_addTermsOf_15 : decode cX8_addTermsOf 15 = .ok (.if_icmp .ge 53, 3) := by decide +kernel
theorem dX8_addTermsOf_18 : decode cX8_addTermsOf 18 = .ok (.aload_n 0, 1) := by decide +kernel
theorem dX8_addTermsOf_19 : decode cX8_addTermsOf 19 = .ok (.getfield 15, 3) := by decide +kernel
theorem dX8_addTermsOf_22 : decode cX8_addTermsOf 22 = .ok (.iload_n 2, 1) := by decide +kernel
theorem dX8_addTermsOf_23 : decode cX8_addTermsOf 23 = .ok (.invokevirtual 41, 3) := by decide +kernel
theorem dX8_addTermsOf_26 : decode cX8_addTermsOf 26 = .ok (.ifCond .eq 42, 3) := by decide +kernel
theorem dX8_addTermsOf_29 : decode cX8_addTermsOf 29 = .ok (.aload_n 0, 1) := by decide +kernel
theorem dX8_addTermsOf_30 : decode cX8_addTermsOf 30 = .ok (.getfield 9, 3) := by decide +kernel
theorem dX8_addTermsOf_33 : decode cX8_addTermsOf 33 = .ok (.aload_n 0, 1) := by decide +kernel
theorem dX8_addTermsOf_34 : decode cX8_addTermsOf 34 = .ok (.getfield 27, 3) := by decide +kernel
theorem dX8_addTermsOf_37 : decode cX8_addTermsOf 37 = .ok (.aload_n 0, 1) := by decide +kernel
theorem dX8_addTermsOf_38 : decode cX8_addTermsOf 38 = .ok (.getfield 15, 3) := by decide +kernel
theorem dX8_addTermsOf_41 : decode cX8_addTermsOf 41 = .ok (.iload_n 2, 1) := by decide +kernel
theorem dX8_addTermsOf_42 : decode cX8_addTermsOf 42 = .ok (.invokevirtual 47, 3) := by decide +kernel
theorem dX8_addTermsOf_45 : decode cX8_addTermsOf 45 = .ok (.iastore, 1) := by decide +kernel
theorem dX8_addTermsOf_46 : decode cX8_addTermsOf 46 = .ok (.aload_n 0, 1) := by decide +kernel
theorem dX8_addTermsOf_47 : decode cX8_addTermsOf 47 = .ok (.dup, 1) := by decide +kernel
theorem dX8_addTermsOf_48 : decode cX8_addTermsOf 48 = .ok (.getfield 27, 3) := by decide +kernel
theorem dX8_addTermsOf_51 : decode cX8_addTermsOf 51 = .ok (.iconst 1, 1) := by decide +kernel
theorem dX8_addTermsOf_52 : decode cX8_addTermsOf 52 = .ok (.iadd, 1) := by decide +kernel
theorem dX8_addTermsOf_53 : decode cX8_addTermsOf 53 = .ok (.putfield 27, 3) := by decide +kernel
theorem dX8_addTermsOf_56 : decode cX8_addTermsOf 56 = .ok (.aload_n 0, 1) := by decide +kernel
theorem dX8_addTermsOf_57 : decode cX8_addTermsOf 57 = .ok (.getfield 15, 3) := by decide +kernel
theorem dX8_addTermsOf_60 : decode cX8_addTermsOf 60 = .ok (.iload_n 2, 1) := by decide +kernel
theorem dX8_addTermsOf_61 : decode cX8_addTermsOf 61 = .ok (.invokevirtual 54, 3) := by decide +kernel
theorem dX8_addTermsOf_64 : decode cX8_addTermsOf 64 = .ok (.istore_n 2, 1) := by decide +kernel
theorem dX8_addTermsOf_65 : decode cX8_addTermsOf 65 = .ok (.goto (-56), 3) := by decide +kernel
theorem dX8_addTermsOf_68 : decode cX8_addTermsOf 68 = .ok (.iload_n 2, 1) := by decide +kernel
theorem dX8_addTermsOf_69 : decode cX8_addTermsOf 69 = .ok (.ifCond .ne 7, 3) := by decide +kernel
theorem dX8_addTermsOf_72 : decode cX8_addTermsOf 72 = .ok (.iconst 1, 1) := by decide +kernel
theorem dX8_addTermsOf_73 : decode cX8_addTermsOf 73 = .ok (.goto 4, 3) := by decide +kernel
theorem dX8_addTermsOf_76 : decode cX8_addTermsOf 76 = .ok (.iconst 0, 1) := by decide +kernel
theorem dX8_addTermsOf_77 : decode cX8_addTermsOf 77 = .ok (.ireturn, 1) := by decide +kernel
theorem dX8_listOfParts_0 : decode cX8_listOfParts 0 = .ok (.iconst 0, 1) := by decide +kernel
theorem dX8_listOfParts_1 : decode cX8_listOfParts 1 = .ok (.istore_n 3, 1) := by decide +kernel
theorem dX8_listOfParts_2 : decode cX8_listOfParts 2 = .ok (.iload_n 2, 1) := by decide +kernel
theorem dX8_listOfParts_3 : decode cX8_listOfParts 3 = .ok (.iconst 1, 1) := by decide +kernel
theorem dX8_listOfParts_4 : decode cX8_listOfParts 4 = .ok (.isub, 1) := by decide +kernel
theorem dX8_listOfParts_5 : decode cX8_listOfParts 5 = .ok (.istore 4, 2) := by decide +kernel
theorem dX8_listOfParts_7 : decode cX8_listOfParts 7 = .ok (.iload 4, 2) := by decide +kernel
theorem dX8_listOfParts_9 : decode cX8_listOfParts 9 = .ok (.iload_n 1, 1) := by decide +kernel
theorem dX8_listOfParts_10 : decode cX8_listOfParts 10 = .ok (.if_icmp .lt 30, 3) := by decide +kernel
theorem dX8_listOfParts_13 : decode cX8_listOfParts 13 = .ok (.iload 4, 2) := by decide +kernel
theorem dX8_listOfParts_15 : decode cX8_listOfParts 15 = .ok (.ifCond .lt 25, 3) := by decide +kernel
theorem dX8_listOfParts_18 : decode cX8_listOfParts 18 = .ok (.aload_n 0, 1) := by decide +kernel
theorem dX8_listOfParts_19 : decode cX8_listOfParts 19 = .ok (.getfield 15, 3) := by decide +kernel
theorem dX8_listOfParts_22 : decode cX8_listOfParts 22 = .ok (.aload_n 0, 1) := by decide +kernel
theorem dX8_listOfParts_23 : decode cX8_listOfParts 23 = .ok (.getfield 9, 3) := by decide +kernel
theorem dX8_listOfParts_26 : decode cX8_listOfParts 26 = .ok (.iload 4, 2) := by decide +kernel
theorem dX8_listOfParts_28 : decode cX8_listOfParts 28 = .ok (.iaload, 1) := by decide +kernel
theorem dX8_listOfParts_29 : decode cX8_listOfParts 29 = .ok (.iload_n 3, 1) := by decide +kernel
theorem dX8_listOfParts_30 : decode cX8_listOfParts 30 = .ok (.invokevirtual 73, 3) := by decide +kernel
theorem dX8_listOfParts_33 : decode cX8_listOfParts 33 = .ok (.istore_n 3, 1) := by decide +kernel
theorem dX8_listOfParts_34 : decode cX8_listOfParts 34 = .ok (.iinc 4 (-1), 3) := by decide +kernel
theorem dX8_listOfParts_37 : decode cX8_listOfParts 37 = .ok (.goto (-30), 3) := by decide +kernel
theorem dX8_listOfParts_40 : decode cX8_listOfParts 40 = .ok (.iload_n 3, 1) := by decide +kernel
theorem dX8_listOfParts_41 : decode cX8_listOfParts 41 = .ok (.ireturn, 1) := by decide +kernel
theorem dX8_takesOf_0 : decode cX8_takesOf 0 = .ok (.iload_n 1, 1) := by decide +kernel
theorem dX8_takesOf_1 : decode cX8_takesOf 1 = .ok (.ifCond .lt 17, 3) := by decide +kernel
theorem dX8_takesOf_4 : decode cX8_takesOf 4 = .ok (.iload_n 1, 1) := by decide +kernel
theorem dX8_takesOf_5 : decode cX8_takesOf 5 = .ok (.getstatic 82, 3) := by decide +kernel
theorem dX8_takesOf_8 : decode cX8_takesOf 8 = .ok (.arraylength, 1) := by decide +kernel
theorem dX8_takesOf_9 : decode cX8_takesOf 9 = .ok (.if_icmp .ge 9, 3) := by decide +kernel
theorem dX8_takesOf_12 : decode cX8_takesOf 12 = .ok (.getstatic 82, 3) := by decide +kernel
theorem dX8_takesOf_15 : decode cX8_takesOf 15 = .ok (.iload_n 1, 1) := by decide +kernel
theorem dX8_takesOf_16 : decode cX8_takesOf 16 = .ok (.iaload, 1) := by decide +kernel
theorem dX8_takesOf_17 : decode cX8_takesOf 17 = .ok (.ireturn, 1) := by decide +kernel
theorem dX8_takesOf_18 : decode cX8_takesOf 18 = .ok (.aload_n 0, 1) := by decide +kernel
theorem dX8_takesOf_19 : decode cX8_takesOf 19 = .ok (.getfield 19, 3) := by decide +kernel
theorem dX8_takesOf_22 : decode cX8_takesOf 22 = .ok (.iload_n 1, 1) := by decide +kernel
theorem dX8_takesOf_23 : decode cX8_takesOf 23 = .ok (.invokevirtual 85, 3) := by decide +kernel
theorem dX8_takesOf_26 : decode cX8_takesOf 26 = .ok (.astore_n 2, 1) := by decide +kernel
theorem dX8_takesOf_27 : decode cX8_takesOf 27 = .ok (.aload_n 2, 1) := by decide +kernel
theorem dX8_takesOf_28 : decode cX8_takesOf 28 = .ok (.ifnonnull 7, 3) := by decide +kernel
theorem dX8_takesOf_31 : decode cX8_takesOf 31 = .ok (.iconst (-1), 1) := by decide +kernel
theorem dX8_takesOf_32 : decode cX8_takesOf 32 = .ok (.goto 7, 3) := by decide +kernel
theorem dX8_takesOf_35 : decode cX8_takesOf 35 = .ok (.aload_n 2, 1) := by decide +kernel
theorem dX8_takesOf_36 : decode cX8_takesOf 36 = .ok (.getfield 91, 3) := by decide +kernel
theorem dX8_takesOf_39 : decode cX8_takesOf 39 = .ok (.ireturn, 1) := by decide +kernel
theorem dX8_isCall_0 : decode cX8_isCall 0 = .ok (.aload_n 0, 1) := by decide +kernel
theorem dX8_isCall_1 : decode cX8_isCall 1 = .ok (.getfield 15, 3) := by decide +kernel
theorem dX8_isCall_4 : decode cX8_isCall 4 = .ok (.iload_n 1, 1) := by decide +kernel
theorem dX8_isCall_5 : decode cX8_isCall 5 = .ok (.invokevirtual 41, 3) := by decide +kernel
theorem dX8_isCall_8 : decode cX8_isCall 8 = .ok (.ifCond .eq 19, 3) := by decide +kernel
theorem dX8_isCall_11 : decode cX8_isCall 11 = .ok (.aload_n 0, 1) := by decide +kernel
theorem dX8_isCall_12 : decode cX8_isCall 12 = .ok (.getfield 15, 3) := by decide +kernel
theorem dX8_isCall_15 : decode cX8_isCall 15 = .ok (.iload_n 1, 1) := by decide +kernel
theorem dX8_isCall_16 : decode cX8_isCall 16 = .ok (.invokevirtual 47, 3) := by decide +kernel
theorem dX8_isCall_19 : decode cX8_isCall 19 = .ok (.iconst 2, 1) := by decide +kernel
theorem dX8_isCall_20 : decode cX8_isCall 20 = .ok (.if_icmp .eq 7, 3) := by decide +kernel
theorem dX8_isCall_23 : decode cX8_isCall 23 = .ok (.iconst 1, 1) := by decide +kernel
theorem dX8_isCall_24 : decode cX8_isCall 24 = .ok (.goto 4, 3) := by decide +kernel
theorem dX8_isCall_27 : decode cX8_isCall 27 = .ok (.iconst 0, 1) := by decide +kernel
theorem dX8_isCall_28 : decode cX8_isCall 28 = .ok (.ireturn, 1) := by decide +kernel
theorem dX8_isPlainConstant_0 : decode cX8_isPlainConstant 0 = .ok (.aload_n 0, 1) := by decide +kernel
theorem dX8_isPlainConstant_1 : decode cX8_isPlainConstant 1 = .ok (.getfield 15, 3) := by decide +kernel
theorem dX8_isPlainConstant_4 : decode cX8_isPlainConstant 4 = .ok (.iload_n 1, 1) := by decide +kernel
theorem dX8_isPlainConstant_5 : decode cX8_isPlainConstant 5 = .ok (.invokevirtual 96, 3) := by decide +kernel
theorem dX8_isPlainConstant_8 : decode cX8_isPlainConstant 8 = .ok (.ifCond .ne 12, 3) := by decide +kernel
theorem dX8_isPlainConstant_11 : decode cX8_isPlainConstant 11 = .ok (.iload_n 1, 1) := by decide +kernel
theorem dX8_isPlainConstant_12 : decode cX8_isPlainConstant 12 = .ok (.ifCond .eq 8, 3) := by decide +kernel
theorem dX8_isPlainConstant_15 : decode cX8_isPlainConstant 15 = .ok (.iload_n 1, 1) := by decide +kernel
theorem dX8_isPlainConstant_16 : decode cX8_isPlainConstant 16 = .ok (.iconst 1, 1) := by decide +kernel
theorem dX8_isPlainConstant_17 : decode cX8_isPlainConstant 17 = .ok (.if_icmp .ne 7, 3) := by decide +kernel
theorem dX8_isPlainConstant_20 : decode cX8_isPlainConstant 20 = .ok (.iconst 1, 1) := by decide +kernel
theorem dX8_isPlainConstant_21 : decode cX8_isPlainConstant 21 = .ok (.goto 4, 3) := by decide +kernel
theorem dX8_isPlainConstant_24 : decode cX8_isPlainConstant 24 = .ok (.iconst 0, 1) := by decide +kernel
theorem dX8_isPlainConstant_25 : decode cX8_isPlainConstant 25 = .ok (.ireturn, 1) := by decide +kernel
theorem dX9_init_0 : decode cX9_init 0 = .ok (.aload_n 0, 1) := by decide +kernel
theorem dX9_init_1 : decode cX9_init 1 = .ok (.invokespecial 1, 3) := by decide +kernel
theorem dX9_init_4 : decode cX9_init 4 = .ok (.aload_n 0, 1) := by decide +kernel
theorem dX9_init_5 : decode cX9_init 5 = .ok (.iconst 5, 1) := by decide +kernel
theorem dX9_init_6 : decode cX9_init 6 = .ok (.newarray .int, 2) := by decide +kernel
theorem dX9_init_8 : decode cX9_init 8 = .ok (.putfield 9, 3) := by decide +kernel
theorem dX9_init_11 : decode cX9_init 11 = .ok (.aload_n 0, 1) := by decide +kernel
theorem dX9_init_12 : decode cX9_init 12 = .ok (.new 13, 3) := by decide +kernel
theorem dX9_init_15 : decode cX9_init 15 = .ok (.dup, 1) := by decide +kernel
theorem dX9_init_16 : decode cX9_init 16 = .ok (.invokespecial 15, 3) := by decide +kernel
theorem dX9_init_19 : decode cX9_init 19 = .ok (.putfield 16, 3) := by decide +kernel
theorem dX9_init_22 : decode cX9_init 22 = .ok (.aload_n 0, 1) := by decide +kernel
theorem dX9_init_23 : decode cX9_init 23 = .ok (.new 20, 3) := by decide +kernel
theorem dX9_init_26 : decode cX9_init 26 = .ok (.dup, 1) := by decide +kernel
theorem dX9_init_27 : decode cX9_init 27 = .ok (.aload_n 0, 1) := by decide +kernel
theorem dX9_init_28 : decode cX9_init 28 = .ok (.getfield 16, 3) := by decide +kernel
theorem dX9_init_31 : decode cX9_init 31 = .ok (.invokespecial 22, 3) := by decide +kernel
theorem dX9_init_34 : decode cX9_init 34 = .ok (.putfield 25, 3) := by decide +kernel
theorem dX9_init_37 : decode cX9_init 37 = .ok (.aload_n 0, 1) := by decide +kernel
theorem dX9_init_38 : decode cX9_init 38 = .ok (.new 29, 3) := by decide +kernel
theorem dX9_init_41 : decode cX9_init 41 = .ok (.dup, 1) := by decide +kernel
theorem dX9_init_42 : decode cX9_init 42 = .ok (.aload_n 0, 1) := by decide +kernel
theorem dX9_init_43 : decode cX9_init 43 = .ok (.getfield 16, 3) := by decide +kernel
theorem dX9_init_46 : decode cX9_init 46 = .ok (.invokespecial 31, 3) := by decide +kernel
theorem dX9_init_49 : decode cX9_init 49 = .ok (.putfield 32, 3) := by decide +kernel
theorem dX9_init_52 : decode cX9_init 52 = .ok (.aload_n 0, 1) := by decide +kernel
theorem dX9_init_53 : decode cX9_init 53 = .ok (.new 36, 3) := by decide +kernel
theorem dX9_init_56 : decode cX9_init 56 = .ok (.dup, 1) := by decide +kernel
theorem dX9_init_57 : decode cX9_init 57 = .ok (.invokespecial 38, 3) := by decide +kernel
theorem dX9_init_60 : decode cX9_init 60 = .ok (.putfield 39, 3) := by decide +kernel
theorem dX9_init_63 : decode cX9_init 63 = .ok (.aload_n 0, 1) := by decide +kernel
theorem dX9_init_64 : decode cX9_init 64 = .ok (.new 43, 3) := by decide +kernel
theorem dX9_init_67 : decode cX9_init 67 = .ok (.dup, 1) := by decide +kernel
theorem dX9_init_68 : decode cX9_init 68 = .ok (.aload_n 0, 1) := by decide +kernel
theorem dX9_init_69 : decode cX9_init 69 = .ok (.getfield 16, 3) := by decide +kernel
theorem dX9_init_72 : decode cX9_init 72 = .ok (.aload_n 0, 1) := by decide +kernel
theorem dX9_init_73 : decode cX9_init 73 = .ok (.getfield 39, 3) := by decide +kernel
theorem dX9_init_76 : decode cX9_init 76 = .ok (.invokespecial 45, 3) := by decide +kernel
theorem dX9_init_79 : decode cX9_init 79 = .ok (.putfield 48, 3) := by decide +kernel
theorem dX9_init_82 : decode cX9_init 82 = .ok (.aload_n 0, 1) := by decide +kernel
theorem dX9_init_83 : decode cX9_init 83 = .ok (.new 52, 3) := by decide +kernel
theorem dX9_init_86 : decode cX9_init 86 = .ok (.dup, 1) := by decide +kernel
theorem dX9_init_87 : decode cX9_init 87 = .ok (.aload_n 0, 1) := by decide +kernel
theorem dX9_init_88 : decode cX9_init 88 = .ok (.getfield 16, 3) := by decide +kernel
theorem dX9_init_91 : decode cX9_init 91 = .ok (.aload_n 0, 1) := by decide +kernel
theorem dX9_init_92 : decode cX9_init 92 = .ok (.getfield 39, 3) := by decide +kernel
theorem dX9_init_95 : decode cX9_init 95 = .ok (.aload_n 0, 1) := by decide +kernel
theorem dX9_init_96 : decode cX9_init 96 = .ok (.getfield 48, 3) := by decide +kernel
theorem dX9_init_99 : decode cX9_init 99 = .ok (.invokespecial 54, 3) := by decide +kernel
theorem dX9_init_102 : decode cX9_init 102 = .ok (.putfield 57, 3) := by decide +kernel
theorem dX9_init_105 : decode cX9_init 105 = .ok (.return_, 1) := by decide +kernel
theorem dX9_feed_0 : decode cX9_feed 0 = .ok (.aload_n 0, 1) := by decide +kernel
theorem dX9_feed_1 : decode cX9_feed 1 = .ok (.getfield 9, 3) := by decide +kernel
theorem dX9_feed_4 : decode cX9_feed 4 = .ok (.iconst 0, 1) := by decide +kernel
theorem dX9_feed_5 : decode cX9_feed 5 = .ok (.iload_n 1, 1) := by decide +kernel
theorem dX9_feed_6 : decode cX9_feed 6 = .ok (.iastore, 1) := by decide +kernel
theorem dX9_feed_7 : decode cX9_feed 7 = .ok (.aload_n 0, 1) := by decide +kernel
theorem dX9_feed_8 : decode cX9_feed 8 = .ok (.getfield 9, 3) := by decide +kernel
theorem dX9_feed_11 : decode cX9_feed 11 = .ok (.iconst 1, 1) := by decide +kernel
theorem dX9_feed_12 : decode cX9_feed 12 = .ok (.iload_n 2, 1) := by decide +kernel
theorem dX9_feed_13 : decode cX9_feed 13 = .ok (.iastore, 1) := by decide +kernel
theorem dX9_feed_14 : decode cX9_feed 14 = .ok (.aload_n 0, 1) := by decide +kernel
theorem dX9_feed_15 : decode cX9_feed 15 = .ok (.getfield 9, 3) := by decide +kernel
theorem dX9_feed_18 : decode cX9_feed 18 = .ok (.iconst 2, 1) := by decide +kernel
theorem dX9_feed_19 : decode cX9_feed 19 = .ok (.iload_n 3, 1) := by decide +kernel
theorem dX9_feed_20 : decode cX9_feed 20 = .ok (.iastore, 1) := by decide +kernel
theorem dX9_feed_21 : decode cX9_feed 21 = .ok (.aload_n 0, 1) := by decide +kernel
theorem dX9_feed_22 : decode cX9_feed 22 = .ok (.getfield 9, 3) := by decide +kernel
theorem dX9_feed_25 : decode cX9_feed 25 = .ok (.iconst 3, 1) := by decide +kernel
theorem dX9_feed_26 : decode cX9_feed 26 = .ok (.iload 4, 2) := by decide +kernel
theorem dX9_feed_28 : decode cX9_feed 28 = .ok (.iastore, 1) := by decide +kernel
theorem dX9_feed_29 : decode cX9_feed 29 = .ok (.aload_n 0, 1) := by decide +kernel
theorem dX9_feed_30 : decode cX9_feed 30 = .ok (.getfield 9, 3) := by decide +kernel
theorem dX9_feed_33 : decode cX9_feed 33 = .ok (.iconst 4, 1) := by decide +kernel
theorem dX9_feed_34 : decode cX9_feed 34 = .ok (.iload 5, 2) := by decide +kernel
theorem dX9_feed_36 : decode cX9_feed 36 = .ok (.iastore, 1) := by decide +kernel
theorem dX9_feed_37 : decode cX9_feed 37 = .ok (.return_, 1) := by decide +kernel
theorem dX9_end_0 : decode cX9_end 0 = .ok (.iload_n 1, 1) := by decide +kernel
theorem dX9_end_1 : decode cX9_end 1 = .ok (.ifCond .lt 24, 3) := by decide +kernel
theorem dX9_end_4 : decode cX9_end 4 = .ok (.iload_n 1, 1) := by decide +kernel
theorem dX9_end_5 : decode cX9_end 5 = .ok (.bipush 20, 2) := by decide +kernel
theorem dX9_end_7 : decode cX9_end 7 = .ok (.if_icmp .gt 18, 3) := by decide +kernel
theorem dX9_end_10 : decode cX9_end 10 = .ok (.iload_n 1, 1) := by decide +kernel
theorem dX9_end_11 : decode cX9_end 11 = .ok (.sipush 3000, 3) := by decide +kernel
theorem dX9_end_14 : decode cX9_end 14 = .ok (.aload_n 0, 1) := by decide +kernel
theorem dX9_end_15 : decode cX9_end 15 = .ok (.getfield 25, 3) := by decide +kernel
theorem dX9_end_18 : decode cX9_end 18 = .ok (.getfield 61, 3) := by decide +kernel
theorem dX9_end_21 : decode cX9_end 21 = .ok (.isub, 1) := by decide +kernel
theorem dX9_end_22 : decode cX9_end 22 = .ok (.if_icmp .le 5, 3) := by decide +kernel
theorem dX9_end_25 : decode cX9_end 25 = .ok (.iconst (-1), 1) := by decide +kernel
theorem dX9_end_26 : decode cX9_end 26 = .ok (.ireturn, 1) := by decide +kernel
theorem dX9_end_27 : decode cX9_end 27 = .ok (.iconst 0, 1) := by decide +kernel
theorem dX9_end_28 : decode cX9_end 28 = .ok (.istore_n 2, 1) := by decide +kernel
theorem dX9_end_29 : decode cX9_end 29 = .ok (.iload_n 2, 1) := by decide +kernel
theorem dX9_end_30 : decode cX9_end 30 = .ok (.iload_n 1, 1) := by decide +kernel
theorem dX9_end_31 : decode cX9_end 31 = .ok (.if_icmp .ge 39, 3) := by decide +kernel
theorem dX9_end_34 : decode cX9_end 34 = .ok (.aload_n 0, 1) := by decide +kernel
theorem dX9_end_35 : decode cX9_end 35 = .ok (.getfield 25, 3) := by decide +kernel
theorem dX9_end_38 : decode cX9_end 38 = .ok (.aload_n 0, 1) := by decide +kernel
theorem dX9_end_39 : decode cX9_end 39 = .ok (.getfield 9, 3) := by decide +kernel
theorem dX9_end_42 : decode cX9_end 42 = .ok (.iload_n 2, 1) := by decide +kernel
theorem dX9_end_43 : decode cX9_end 43 = .ok (.iconst 4, 1) := by decide +kernel
theorem dX9_end_44 : decode cX9_end 44 = .ok (.idiv, 1) := by decide +kernel
theorem dX9_end_45 : decode cX9_end 45 = .ok (.iaload, 1) := by decide +kernel
theorem dX9_end_46 : decode cX9_end 46 = .ok (.bipush 24, 2) := by decide +kernel
theorem dX9_end_48 : decode cX9_end 48 = .ok (.iload_n 2, 1) := by decide +kernel
theorem dX9_end_49 : decode cX9_end 49 = .ok (.iconst 4, 1) := by decide +kernel
theorem dX9_end_50 : decode cX9_end 50 = .ok (.irem, 1) := by decide +kernel
theorem dX9_end_51 : decode cX9_end 51 = .ok (.bipush 8, 2) := by decide +kernel
theorem dX9_end_53 : decode cX9_end 53 = .ok (.imul, 1) := by decide +kernel
theorem dX9_end_54 : decode cX9_end 54 = .ok (.isub, 1) := by decide +kernel
theorem dX9_end_55 : decode cX9_end 55 = .ok (.iushr, 1) := by decide +kernel
theorem dX9_end_56 : decode cX9_end 56 = .ok (.sipush 255, 3) := by decide +kernel
theorem dX9_end_59 : decode cX9_end 59 = .ok (.iand, 1) := by decide +kernel
theorem dX9_end_60 : decode cX9_end 60 = .ok (.i2c, 1) := by decide +kernel
theorem dX9_end_61 : decode cX9_end 61 = .ok (.invokevirtual 65, 3) := by decide +kernel
theorem dX9_end_64 : decode cX9_end 64 = .ok (.iinc 2 1, 3) := by decide +kernel
theorem dX9_end_67 : decode cX9_end 67 = .ok (.goto (-38), 3) := by decide +kernel
theorem dX9_end_70 : decode cX9_end 70 = .ok (.aload_n 0, 1) := by decide +kernel
theorem dX9_end_71 : decode cX9_end 71 = .ok (.getfield 9, 3) := by decide +kernel
theorem dX9_end_74 : decode cX9_end 74 = .ok (.iconst 0, 1) := by decide +kernel
theorem dX9_end_75 : decode cX9_end 75 = .ok (.invokestatic 69, 3) := by decide +kernel
theorem dX9_end_78 : decode cX9_end 78 = .ok (.aload_n 0, 1) := by decide +kernel
theorem dX9_end_79 : decode cX9_end 79 = .ok (.getfield 25, 3) := by decide +kernel
theorem dX9_end_82 : decode cX9_end 82 = .ok (.getfield 61, 3) := by decide +kernel
theorem dX9_end_85 : decode cX9_end 85 = .ok (.ireturn, 1) := by decide +kernel
theorem dX9_fuel_0 : decode cX9_fuel 0 = .ok (.iload_n 1, 1) := by decide +kernel
theorem dX9_fuel_1 : decode cX9_fuel 1 = .ok (.iconst 1, 1) := by decide +kernel
theorem dX9_fuel_2 : decode cX9_fuel 2 = .ok (.if_icmp .lt 10, 3) := by decide +kernel
theorem dX9_fuel_5 : decode cX9_fuel 5 = .ok (.iload_n 1, 1) := by decide +kernel
theorem dX9_fuel_6 : decode cX9_fuel 6 = .ok (.sipush 1000, 3) := by decide +kernel
theorem dX9_fuel_9 : decode cX9_fuel 9 = .ok (.if_icmp .le 5, 3) := by decide +kernel
theorem dX9_fuel_12 : decode cX9_fuel 12 = .ok (.iconst (-1), 1) := by decide +kernel
theorem dX9_fuel_13 : decode cX9_fuel 13 = .ok (.ireturn, 1) := by decide +kernel
theorem dX9_fuel_14 : decode cX9_fuel 14 = .ok (.aload_n 0, 1) := by decide +kernel
theorem dX9_fuel_15 : decode cX9_fuel 15 = .ok (.getfield 48, 3) := by decide +kernel
theorem dX9_fuel_18 : decode cX9_fuel 18 = .ok (.getfield 75, 3) := by decide +kernel
theorem dX9_fuel_21 : decode cX9_fuel 21 = .ok (.istore_n 2, 1) := by decide +kernel
theorem dX9_fuel_22 : decode cX9_fuel 22 = .ok (.aload_n 0, 1) := by decide +kernel
theorem dX9_fuel_23 : decode cX9_fuel 23 = .ok (.getfield 48, 3) := by decide +kernel
theorem dX9_fuel_26 : decode cX9_fuel 26 = .ok (.iload_n 1, 1) := by decide +kernel
theorem dX9_fuel_27 : decode cX9_fuel 27 = .ok (.putfield 75, 3) := by decide +kernel
theorem dX9_fuel_30 : decode cX9_fuel 30 = .ok (.iload_n 2, 1) := by decide +kernel
theorem dX9_fuel_31 : decode cX9_fuel 31 = .ok (.ireturn, 1) := by decide +kernel
theorem dX9_run_0 : decode cX9_run 0 = .ok (.aload_n 0, 1) := by decide +kernel
theorem dX9_run_1 : decode cX9_run 1 = .ok (.getfield 32, 3) := by decide +kernel
theorem dX9_run_4 : decode cX9_run 4 = .ok (.invokevirtual 78, 3) := by decide +kernel
theorem dX9_run_7 : decode cX9_run 7 = .ok (.aload_n 0, 1) := by decide +kernel
theorem dX9_run_8 : decode cX9_run 8 = .ok (.getfield 48, 3) := by decide +kernel
theorem dX9_run_11 : decode cX9_run 11 = .ok (.invokevirtual 81, 3) := by decide +kernel
theorem dX9_run_14 : decode cX9_run 14 = .ok (.aload_n 0, 1) := by decide +kernel
theorem dX9_run_15 : decode cX9_run 15 = .ok (.getfield 16, 3) := by decide +kernel
theorem dX9_run_18 : decode cX9_run 18 = .ok (.aload_n 0, 1) := by decide +kernel
theorem dX9_run_19 : decode cX9_run 19 = .ok (.getfield 57, 3) := by decide +kernel
theorem dX9_run_22 : decode cX9_run 22 = .ok (.getfield 82, 3) := by decide +kernel
theorem dX9_run_25 : decode cX9_run 25 = .ok (.invokevirtual 85, 3) := by decide +kernel
theorem dX9_run_28 : decode cX9_run 28 = .ok (.aload_n 0, 1) := by decide +kernel
theorem dX9_run_29 : decode cX9_run 29 = .ok (.getfield 16, 3) := by decide +kernel
theorem dX9_run_32 : decode cX9_run 32 = .ok (.aload_n 0, 1) := by decide +kernel
theorem dX9_run_33 : decode cX9_run 33 = .ok (.getfield 57, 3) := by decide +kernel
theorem dX9_run_36 : decode cX9_run 36 = .ok (.aload_n 0, 1) := by decide +kernel
theorem dX9_run_37 : decode cX9_run 37 = .ok (.getfield 25, 3) := by decide +kernel
theorem dX9_run_40 : decode cX9_run 40 = .ok (.getfield 61, 3) := by decide +kernel
theorem dX9_run_43 : decode cX9_run 43 = .ok (.invokevirtual 89, 3) := by decide +kernel
theorem dX9_run_46 : decode cX9_run 46 = .ok (.invokevirtual 93, 3) := by decide +kernel
theorem dX9_run_49 : decode cX9_run 49 = .ok (.ifCond .ne 13, 3) := by decide +kernel
theorem dX9_run_52 : decode cX9_run 52 = .ok (.aload_n 0, 1) := by decide +kernel
theorem dX9_run_53 : decode cX9_run 53 = .ok (.getfield 25, 3) := by decide +kernel
theorem dX9_run_56 : decode cX9_run 56 = .ok (.invokevirtual 97, 3) := by decide +kernel
theorem dX9_run_59 : decode cX9_run 59 = .ok (.bipush 8, 2) := by decide +kernel
theorem dX9_run_61 : decode cX9_run 61 = .ok (.ireturn, 1) := by decide +kernel
theorem dX9_run_62 : decode cX9_run 62 = .ok (.aload_n 0, 1) := by decide +kernel
theorem dX9_run_63 : decode cX9_run 63 = .ok (.getfield 25, 3) := by decide +kernel
theorem dX9_run_66 : decode cX9_run 66 = .ok (.invokevirtual 98, 3) := by decide +kernel
theorem dX9_run_69 : decode cX9_run 69 = .ok (.istore_n 1, 1) := by decide +kernel
theorem dX9_run_70 : decode cX9_run 70 = .ok (.iload_n 1, 1) := by decide +kernel
theorem dX9_run_71 : decode cX9_run 71 = .ok (.iconst (-1), 1) := by decide +kernel
theorem dX9_run_72 : decode cX9_run 72 = .ok (.if_icmp .ne 5, 3) := by decide +kernel
theorem dX9_run_75 : decode cX9_run 75 = .ok (.iconst 1, 1) := by decide +kernel
theorem dX9_run_76 : decode cX9_run 76 = .ok (.ireturn, 1) := by decide +kernel
theorem dX9_run_77 : decode cX9_run 77 = .ok (.aload_n 0, 1) := by decide +kernel
theorem dX9_run_78 : decode cX9_run 78 = .ok (.getfield 57, 3) := by decide +kernel
theorem dX9_run_81 : decode cX9_run 81 = .ok (.iload_n 1, 1) := by decide +kernel
theorem dX9_run_82 : decode cX9_run 82 = .ok (.invokevirtual 102, 3) := by decide +kernel
theorem dX9_run_85 : decode cX9_run 85 = .ok (.istore_n 2, 1) := by decide +kernel
theorem dX9_run_86 : decode cX9_run 86 = .ok (.iload_n 2, 1) := by decide +kernel
theorem dX9_run_87 : decode cX9_run 87 = .ok (.ifCond .ne 17, 3) := by decide +kernel
theorem dX9_run_90 : decode cX9_run 90 = .ok (.aload_n 0, 1) := by decide +kernel
theorem dX9_run_91 : decode cX9_run 91 = .ok (.getfield 32, 3) := by decide +kernel
theorem dX9_run_94 : decode cX9_run 94 = .ok (.aload_n 0, 1) := by decide +kernel
theorem dX9_run_95 : decode cX9_run 95 = .ok (.getfield 57, 3) := by decide +kernel
theorem dX9_run_98 : decode cX9_run 98 = .ok (.getfield 105, 3) := by decide +kernel
theorem dX9_run_101 : decode cX9_run 101 = .ok (.invokevirtual 108, 3) := by decide +kernel
theorem dX9_run_104 : decode cX9_run 104 = .ok (.iload_n 2, 1) := by decide +kernel
theorem dX9_run_105 : decode cX9_run 105 = .ok (.ireturn, 1) := by decide +kernel
theorem dX9_fault_0 : decode cX9_fault 0 = .ok (.iload_n 1, 1) := by decide +kernel
theorem dX9_fault_1 : decode cX9_fault 1 = .ok (.tableswitch 51 0 2 #[27, 35, 43], 27) := by decide +kernel
theorem dX9_fault_28 : decode cX9_fault 28 = .ok (.aload_n 0, 1) := by decide +kernel
theorem dX9_fault_29 : decode cX9_fault 29 = .ok (.getfield 25, 3) := by decide +kernel
theorem dX9_fault_32 : decode cX9_fault 32 = .ok (.getfield 111, 3) := by decide +kernel
theorem dX9_fault_35 : decode cX9_fault 35 = .ok (.ireturn, 1) := by decide +kernel
theorem dX9_fault_36 : decode cX9_fault 36 = .ok (.aload_n 0, 1) := by decide +kernel
theorem dX9_fault_37 : decode cX9_fault 37 = .ok (.getfield 25, 3) := by decide +kernel
theorem dX9_fault_40 : decode cX9_fault 40 = .ok (.getfield 114, 3) := by decide +kernel
theorem dX9_fault_43 : decode cX9_fault 43 = .ok (.ireturn, 1) := by decide +kernel
theorem dX9_fault_44 : decode cX9_fault 44 = .ok (.aload_n 0, 1) := by decide +kernel
theorem dX9_fault_45 : decode cX9_fault 45 = .ok (.getfield 48, 3) := by decide +kernel
theorem dX9_fault_48 : decode cX9_fault 48 = .ok (.getfield 117, 3) := by decide +kernel
theorem dX9_fault_51 : decode cX9_fault 51 = .ok (.ireturn, 1) := by decide +kernel
theorem dX9_fault_52 : decode cX9_fault 52 = .ok (.iconst (-1), 1) := by decide +kernel
theorem dX9_fault_53 : decode cX9_fault 53 = .ok (.ireturn, 1) := by decide +kernel
theorem dX9_steps_0 : decode cX9_steps 0 = .ok (.aload_n 0, 1) := by decide +kernel
theorem dX9_steps_1 : decode cX9_steps 1 = .ok (.getfield 48, 3) := by decide +kernel
theorem dX9_steps_4 : decode cX9_steps 4 = .ok (.getfield 118, 3) := by decide +kernel
theorem dX9_steps_7 : decode cX9_steps 7 = .ok (.ireturn, 1) := by decide +kernel
theorem dX9_functions_0 : decode cX9_functions 0 = .ok (.aload_n 0, 1) := by decide +kernel
theorem dX9_functions_1 : decode cX9_functions 1 = .ok (.getfield 39, 3) := by decide +kernel
theorem dX9_functions_4 : decode cX9_functions 4 = .ok (.getfield 121, 3) := by decide +kernel
theorem dX9_functions_7 : decode cX9_functions 7 = .ok (.ireturn, 1) := by decide +kernel
theorem dX9_size_0 : decode cX9_size 0 = .ok (.aload_n 0, 1) := by decide +kernel
theorem dX9_size_1 : decode cX9_size 1 = .ok (.getfield 32, 3) := by decide +kernel
theorem dX9_size_4 : decode cX9_size 4 = .ok (.getfield 124, 3) := by decide +kernel
theorem dX9_size_7 : decode cX9_size 7 = .ok (.ireturn, 1) := by decide +kernel
theorem dX9_letter_0 : decode cX9_letter 0 = .ok (.aload_n 0, 1) := by decide +kernel
theorem dX9_letter_1 : decode cX9_letter 1 = .ok (.getfield 32, 3) := by decide +kernel
theorem dX9_letter_4 : decode cX9_letter 4 = .ok (.iload_n 1, 1) := by decide +kernel
theorem dX9_letter_5 : decode cX9_letter 5 = .ok (.invokevirtual 125, 3) := by decide +kernel
theorem dX9_letter_8 : decode cX9_letter 8 = .ok (.ireturn, 1) := by decide +kernel
end
section
theorem dJ0_length_8abf5_0 : decode cJ0_length_8abf5 0 = .ok (.aload_n 0, 1) := by decide +kernel
theorem dJ0_length_8abf5_1 : decode cJ0_length_8abf5 1 = .ok (.getfield 9, 3) := by decide +kernel
theorem dJ0_length_8abf5_4 : decode cJ0_length_8abf5 4 = .ok (.arraylength, 1) := by decide +kernel
theorem dJ0_length_8abf5_5 : decode cJ0_length_8abf5 5 = .ok (.aload_n 0, 1) := by decide +kernel
theorem dJ0_length_8abf5_6 : decode cJ0_length_8abf5 6 = .ok (.invokevirtual 335, 3) := by decide +kernel
theorem dJ0_length_8abf5_9 : decode cJ0_length_8abf5 9 = .ok (.ishr, 1) := by decide +kernel
theorem dJ0_length_8abf5_10 : decode cJ0_length_8abf5 10 = .ok (.ireturn, 1) := by decide +kernel
theorem dJ0_charAt_5068e_0 : decode cJ0_charAt_5068e 0 = .ok (.aload_n 0, 1) := by decide +kernel
theorem dJ0_charAt_5068e_1 : decode cJ0_charAt_5068e 1 = .ok (.invokevirtual 492, 3) := by decide +kernel
theorem dJ0_charAt_5068e_4 : decode cJ0_charAt_5068e 4 = .ok (.ifCond .eq 12, 3) := by decide +kernel
theorem dJ0_charAt_5068e_7 : decode cJ0_charAt_5068e 7 = .ok (.aload_n 0, 1) := by decide +kernel
theorem dJ0_charAt_5068e_8 : decode cJ0_charAt_5068e 8 = .ok (.getfield 9, 3) := by decide +kernel
theorem dJ0_charAt_5068e_11 : decode cJ0_charAt_5068e 11 = .ok (.iload_n 1, 1) := by decide +kernel
theorem dJ0_charAt_5068e_12 : decode cJ0_charAt_5068e 12 = .ok (.invokestatic 495, 3) := by decide +kernel
theorem dJ0_charAt_5068e_15 : decode cJ0_charAt_5068e 15 = .ok (.ireturn, 1) := by decide +kernel
theorem dJ0_charAt_5068e_16 : decode cJ0_charAt_5068e 16 = .ok (.aload_n 0, 1) := by decide +kernel
theorem dJ0_charAt_5068e_17 : decode cJ0_charAt_5068e 17 = .ok (.getfield 9, 3) := by decide +kernel
theorem dJ0_charAt_5068e_20 : decode cJ0_charAt_5068e 20 = .ok (.iload_n 1, 1) := by decide +kernel
theorem dJ0_charAt_5068e_21 : decode cJ0_charAt_5068e 21 = .ok (.invokestatic 498, 3) := by decide +kernel
theorem dJ0_charAt_5068e_24 : decode cJ0_charAt_5068e 24 = .ok (.ireturn, 1) := by decide +kernel
theorem dJ0_indexOf_0f7a4_0 : decode cJ0_indexOf_0f7a4 0 = .ok (.aload_n 0, 1) := by decide +kernel
theorem dJ0_indexOf_0f7a4_1 : decode cJ0_indexOf_0f7a4 1 = .ok (.iload_n 1, 1) := by decide +kernel
theorem dJ0_indexOf_0f7a4_2 : decode cJ0_indexOf_0f7a4 2 = .ok (.iconst 0, 1) := by decide +kernel
theorem dJ0_indexOf_0f7a4_3 : decode cJ0_indexOf_0f7a4 3 = .ok (.invokevirtual 633, 3) := by decide +kernel
theorem dJ0_indexOf_0f7a4_6 : decode cJ0_indexOf_0f7a4 6 = .ok (.ireturn, 1) := by decide +kernel
theorem dJ0_indexOf_7cf53_0 : decode cJ0_indexOf_7cf53 0 = .ok (.aload_n 0, 1) := by decide +kernel
theorem dJ0_indexOf_7cf53_1 : decode cJ0_indexOf_7cf53 1 = .ok (.invokevirtual 492, 3) := by decide +kernel
theorem dJ0_indexOf_7cf53_4 : decode cJ0_indexOf_7cf53 4 = .ok (.ifCond .eq 19, 3) := by decide +kernel
theorem dJ0_indexOf_7cf53_7 : decode cJ0_indexOf_7cf53 7 = .ok (.aload_n 0, 1) := by decide +kernel
theorem dJ0_indexOf_7cf53_8 : decode cJ0_indexOf_7cf53 8 = .ok (.getfield 9, 3) := by decide +kernel
theorem dJ0_indexOf_7cf53_11 : decode cJ0_indexOf_7cf53 11 = .ok (.iload_n 1, 1) := by decide +kernel
theorem dJ0_indexOf_7cf53_12 : decode cJ0_indexOf_7cf53 12 = .ok (.iload_n 2, 1) := by decide +kernel
theorem dJ0_indexOf_7cf53_13 : decode cJ0_indexOf_7cf53 13 = .ok (.aload_n 0, 1) := by decide +kernel
theorem dJ0_indexOf_7cf53_14 : decode cJ0_indexOf_7cf53 14 = .ok (.invokevirtual 505, 3) := by decide +kernel
theorem dJ0_indexOf_7cf53_17 : decode cJ0_indexOf_7cf53 17 = .ok (.invokestatic 637, 3) := by decide +kernel
theorem dJ0_indexOf_7cf53_20 : decode cJ0_indexOf_7cf53 20 = .ok (.goto 16, 3) := by decide +kernel
theorem dJ0_indexOf_7cf53_23 : decode cJ0_indexOf_7cf53 23 = .ok (.aload_n 0, 1) := by decide +kernel
theorem dJ0_indexOf_7cf53_24 : decode cJ0_indexOf_7cf53 24 = .ok (.getfield 9, 3) := by decide +kernel
theorem dJ0_indexOf_7cf53_27 : decode cJ0_indexOf_7cf53 27 = .ok (.iload_n 1, 1) := by decide +kernel
theorem dJ0_indexOf_7cf53_28 : decode cJ0_indexOf_7cf53 28 = .ok (.iload_n 2, 1) := by decide +kernel
theorem dJ0_indexOf_7cf53_29 : decode cJ0_indexOf_7cf53 29 = .ok (.aload_n 0, 1) := by decide +kernel
theorem dJ0_indexOf_7cf53_30 : decode cJ0_indexOf_7cf53 30 = .ok (.invokevirtual 505, 3) := by decide +kernel
theorem dJ0_indexOf_7cf53_33 : decode cJ0_indexOf_7cf53 33 = .ok (.invokestatic 640, 3) := by decide +kernel
theorem dJ0_indexOf_7cf53_36 : decode cJ0_indexOf_7cf53 36 = .ok (.ireturn, 1) := by decide +kernel
theorem dJ0_coder_7d493_0 : decode cJ0_coder_7d493 0 = .ok (.getstatic 38, 3) := by decide +kernel
theorem dJ0_coder_7d493_3 : decode cJ0_coder_7d493 3 = .ok (.ifCond .eq 10, 3) := by decide +kernel
theorem dJ0_coder_7d493_6 : decode cJ0_coder_7d493 6 = .ok (.aload_n 0, 1) := by decide +kernel
theorem dJ0_coder_7d493_7 : decode cJ0_coder_7d493 7 = .ok (.getfield 15, 3) := by decide +kernel
theorem dJ0_coder_7d493_10 : decode cJ0_coder_7d493 10 = .ok (.goto 4, 3) := by decide +kernel
theorem dJ0_coder_7d493_13 : decode cJ0_coder_7d493 13 = .ok (.iconst 1, 1) := by decide +kernel
theorem dJ0_coder_7d493_14 : decode cJ0_coder_7d493 14 = .ok (.ireturn, 1) := by decide +kernel
theorem dJ0_isLatin1_aae02_0 : decode cJ0_isLatin1_aae02 0 = .ok (.getstatic 38, 3) := by decide +kernel
theorem dJ0_isLatin1_aae02_3 : decode cJ0_isLatin1_aae02 3 = .ok (.ifCond .eq 14, 3) := by decide +kernel
theorem dJ0_isLatin1_aae02_6 : decode cJ0_isLatin1_aae02 6 = .ok (.aload_n 0, 1) := by decide +kernel
theorem dJ0_isLatin1_aae02_7 : decode cJ0_isLatin1_aae02 7 = .ok (.getfield 15, 3) := by decide +kernel
theorem dJ0_isLatin1_aae02_10 : decode cJ0_isLatin1_aae02 10 = .ok (.ifCond .ne 7, 3) := by decide +kernel
theorem dJ0_isLatin1_aae02_13 : decode cJ0_isLatin1_aae02 13 = .ok (.iconst 1, 1) := by decide +kernel
theorem dJ0_isLatin1_aae02_14 : decode cJ0_isLatin1_aae02 14 = .ok (.goto 4, 3) := by decide +kernel
theorem dJ0_isLatin1_aae02_17 : decode cJ0_isLatin1_aae02 17 = .ok (.iconst 0, 1) := by decide +kernel
theorem dJ0_isLatin1_aae02_18 : decode cJ0_isLatin1_aae02 18 = .ok (.ireturn, 1) := by decide +kernel
theorem dJ0_checkIndex_df160_0 : decode cJ0_checkIndex_df160 0 = .ok (.iload_n 0, 1) := by decide +kernel
theorem dJ0_checkIndex_df160_1 : decode cJ0_checkIndex_df160 1 = .ok (.iload_n 1, 1) := by decide +kernel
theorem dJ0_checkIndex_df160_2 : decode cJ0_checkIndex_df160 2 = .ok (.getstatic 1053, 3) := by decide +kernel
theorem dJ0_checkIndex_df160_5 : decode cJ0_checkIndex_df160 5 = .ok (.invokestatic 1059, 3) := by decide +kernel
theorem dJ0_checkIndex_df160_8 : decode cJ0_checkIndex_df160 8 = .ok (.pop, 1) := by decide +kernel
theorem dJ0_checkIndex_df160_9 : decode cJ0_checkIndex_df160 9 = .ok (.return_, 1) := by decide +kernel
theorem dJ0_checkBoundsBeginEnd_23922_0 : decode cJ0_checkBoundsBeginEnd_23922 0 = .ok (.iload_n 0, 1) := by decide +kernel
theorem dJ0_checkBoundsBeginEnd_23922_1 : decode cJ0_checkBoundsBeginEnd_23922 1 = .ok (.iload_n 1, 1) := by decide +kernel
theorem dJ0_checkBoundsBeginEnd_23922_2 : decode cJ0_checkBoundsBeginEnd_23922 2 = .ok (.iload_n 2, 1) := by decide +kernel
theorem dJ0_checkBoundsBeginEnd_23922_3 : decode cJ0_checkBoundsBeginEnd_23922 3 = .ok (.getstatic 1053, 3) := by decide +kernel
theorem dJ0_checkBoundsBeginEnd_23922_6 : decode cJ0_checkBoundsBeginEnd_23922 6 = .ok (.invokestatic 1062, 3) := by decide +kernel
theorem dJ0_checkBoundsBeginEnd_23922_9 : decode cJ0_checkBoundsBeginEnd_23922 9 = .ok (.pop, 1) := by decide +kernel
theorem dJ0_checkBoundsBeginEnd_23922_10 : decode cJ0_checkBoundsBeginEnd_23922 10 = .ok (.return_, 1) := by decide +kernel
theorem dJ1_charAt_3b067_0 : decode cJ1_charAt_3b067 0 = .ok (.iload_n 1, 1) := by decide +kernel
theorem dJ1_charAt_3b067_1 : decode cJ1_charAt_3b067 1 = .ok (.aload_n 0, 1) := by decide +kernel
theorem dJ1_charAt_3b067_2 : decode cJ1_charAt_3b067 2 = .ok (.arraylength, 1) := by decide +kernel
theorem dJ1_charAt_3b067_3 : decode cJ1_charAt_3b067 3 = .ok (.invokestatic 9, 3) := by decide +kernel
theorem dJ1_charAt_3b067_6 : decode cJ1_charAt_3b067 6 = .ok (.aload_n 0, 1) := by decide +kernel
theorem dJ1_charAt_3b067_7 : decode cJ1_charAt_3b067 7 = .ok (.iload_n 1, 1) := by decide +kernel
theorem dJ1_charAt_3b067_8 : decode cJ1_charAt_3b067 8 = .ok (.baload, 1) := by decide +kernel
theorem dJ1_charAt_3b067_9 : decode cJ1_charAt_3b067 9 = .ok (.sipush 255, 3) := by decide +kernel
theorem dJ1_charAt_3b067_12 : decode cJ1_charAt_3b067 12 = .ok (.iand, 1) := by decide +kernel
theorem dJ1_charAt_3b067_13 : decode cJ1_charAt_3b067 13 = .ok (.i2c, 1) := by decide +kernel
theorem dJ1_charAt_3b067_14 : decode cJ1_charAt_3b067 14 = .ok (.ireturn, 1) := by decide +kernel
theorem dJ1_canEncode_9a6ad_0 : decode cJ1_canEncode_9a6ad 0 = .ok (.iload_n 0, 1) := by decide +kernel
theorem dJ1_canEncode_9a6ad_1 : decode cJ1_canEncode_9a6ad 1 = .ok (.ifCond .lt 14, 3) := by decide +kernel
theorem dJ1_canEncode_9a6ad_4 : decode cJ1_canEncode_9a6ad 4 = .ok (.iload_n 0, 1) := by decide +kernel
theorem dJ1_canEncode_9a6ad_5 : decode cJ1_canEncode_9a6ad 5 = .ok (.sipush 255, 3) := by decide +kernel
theorem dJ1_canEncode_9a6ad_8 : decode cJ1_canEncode_9a6ad 8 = .ok (.if_icmp .gt 7, 3) := by decide +kernel
theorem dJ1_canEncode_9a6ad_11 : decode cJ1_canEncode_9a6ad 11 = .ok (.iconst 1, 1) := by decide +kernel
theorem dJ1_canEncode_9a6ad_12 : decode cJ1_canEncode_9a6ad 12 = .ok (.goto 4, 3) := by decide +kernel
theorem dJ1_canEncode_9a6ad_15 : decode cJ1_canEncode_9a6ad 15 = .ok (.iconst 0, 1) := by decide +kernel
theorem dJ1_canEncode_9a6ad_16 : decode cJ1_canEncode_9a6ad 16 = .ok (.ireturn, 1) := by decide +kernel
theorem dJ1_indexOf_4cfef_0 : decode cJ1_indexOf_4cfef 0 = .ok (.iload_n 1, 1) := by decide +kernel
theorem dJ1_indexOf_4cfef_1 : decode cJ1_indexOf_4cfef 1 = .ok (.invokestatic 88, 3) := by decide +kernel
theorem dJ1_indexOf_4cfef_4 : decode cJ1_indexOf_4cfef 4 = .ok (.ifCond .ne 5, 3) := by decide +kernel
theorem dJ1_indexOf_4cfef_7 : decode cJ1_indexOf_4cfef 7 = .ok (.iconst (-1), 1) := by decide +kernel
theorem dJ1_indexOf_4cfef_8 : decode cJ1_indexOf_4cfef 8 = .ok (.ireturn, 1) := by decide +kernel
theorem dJ1_indexOf_4cfef_9 : decode cJ1_indexOf_4cfef 9 = .ok (.iload_n 2, 1) := by decide +kernel
theorem dJ1_indexOf_4cfef_10 : decode cJ1_indexOf_4cfef 10 = .ok (.iconst 0, 1) := by decide +kernel
theorem dJ1_indexOf_4cfef_11 : decode cJ1_indexOf_4cfef 11 = .ok (.invokestatic 92, 3) := by decide +kernel
theorem dJ1_indexOf_4cfef_14 : decode cJ1_indexOf_4cfef 14 = .ok (.istore_n 2, 1) := by decide +kernel
theorem dJ1_indexOf_4cfef_15 : decode cJ1_indexOf_4cfef 15 = .ok (.iload_n 3, 1) := by decide +kernel
theorem dJ1_indexOf_4cfef_16 : decode cJ1_indexOf_4cfef 16 = .ok (.aload_n 0, 1) := by decide +kernel
theorem dJ1_indexOf_4cfef_17 : decode cJ1_indexOf_4cfef 17 = .ok (.arraylength, 1) := by decide +kernel
theorem dJ1_indexOf_4cfef_18 : decode cJ1_indexOf_4cfef 18 = .ok (.invokestatic 38, 3) := by decide +kernel
theorem dJ1_indexOf_4cfef_21 : decode cJ1_indexOf_4cfef 21 = .ok (.istore_n 3, 1) := by decide +kernel
theorem dJ1_indexOf_4cfef_22 : decode cJ1_indexOf_4cfef 22 = .ok (.iload_n 2, 1) := by decide +kernel
theorem dJ1_indexOf_4cfef_23 : decode cJ1_indexOf_4cfef 23 = .ok (.iload_n 3, 1) := by decide +kernel
theorem dJ1_indexOf_4cfef_24 : decode cJ1_indexOf_4cfef 24 = .ok (.if_icmp .lt 5, 3) := by decide +kernel
theorem dJ1_indexOf_4cfef_27 : decode cJ1_indexOf_4cfef 27 = .ok (.iconst (-1), 1) := by decide +kernel
theorem dJ1_indexOf_4cfef_28 : decode cJ1_indexOf_4cfef 28 = .ok (.ireturn, 1) := by decide +kernel
theorem dJ1_indexOf_4cfef_29 : decode cJ1_indexOf_4cfef 29 = .ok (.aload_n 0, 1) := by decide +kernel
theorem dJ1_indexOf_4cfef_30 : decode cJ1_indexOf_4cfef 30 = .ok (.iload_n 1, 1) := by decide +kernel
theorem dJ1_indexOf_4cfef_31 : decode cJ1_indexOf_4cfef 31 = .ok (.iload_n 2, 1) := by decide +kernel
theorem dJ1_indexOf_4cfef_32 : decode cJ1_indexOf_4cfef 32 = .ok (.iload_n 3, 1) := by decide +kernel
theorem dJ1_indexOf_4cfef_33 : decode cJ1_indexOf_4cfef 33 = .ok (.invokestatic 95, 3) := by decide +kernel
theorem dJ1_indexOf_4cfef_36 : decode cJ1_indexOf_4cfef 36 = .ok (.ireturn, 1) := by decide +kernel
theorem dJ1_indexOfChar_4cfef_0 : decode cJ1_indexOfChar_4cfef 0 = .ok (.iload_n 1, 1) := by decide +kernel
theorem dJ1_indexOfChar_4cfef_1 : decode cJ1_indexOfChar_4cfef 1 = .ok (.i2b, 1) := by decide +kernel
theorem dJ1_indexOfChar_4cfef_2 : decode cJ1_indexOfChar_4cfef 2 = .ok (.istore 4, 2) := by decide +kernel
theorem dJ1_indexOfChar_4cfef_4 : decode cJ1_indexOfChar_4cfef 4 = .ok (.iload_n 2, 1) := by decide +kernel
theorem dJ1_indexOfChar_4cfef_5 : decode cJ1_indexOfChar_4cfef 5 = .ok (.istore 5, 2) := by decide +kernel
theorem dJ1_indexOfChar_4cfef_7 : decode cJ1_indexOfChar_4cfef 7 = .ok (.iload 5, 2) := by decide +kernel
theorem dJ1_indexOfChar_4cfef_9 : decode cJ1_indexOfChar_4cfef 9 = .ok (.iload_n 3, 1) := by decide +kernel
theorem dJ1_indexOfChar_4cfef_10 : decode cJ1_indexOfChar_4cfef 10 = .ok (.if_icmp .ge 21, 3) := by decide +kernel
theorem dJ1_indexOfChar_4cfef_13 : decode cJ1_indexOfChar_4cfef 13 = .ok (.aload_n 0, 1) := by decide +kernel
theorem dJ1_indexOfChar_4cfef_14 : decode cJ1_indexOfChar_4cfef 14 = .ok (.iload 5, 2) := by decide +kernel
theorem dJ1_indexOfChar_4cfef_16 : decode cJ1_indexOfChar_4cfef 16 = .ok (.baload, 1) := by decide +kernel
theorem dJ1_indexOfChar_4cfef_17 : decode cJ1_indexOfChar_4cfef 17 = .ok (.iload 4, 2) := by decide +kernel
theorem dJ1_indexOfChar_4cfef_19 : decode cJ1_indexOfChar_4cfef 19 = .ok (.if_icmp .ne 6, 3) := by decide +kernel
theorem dJ1_indexOfChar_4cfef_22 : decode cJ1_indexOfChar_4cfef 22 = .ok (.iload 5, 2) := by decide +kernel
theorem dJ1_indexOfChar_4cfef_24 : decode cJ1_indexOfChar_4cfef 24 = .ok (.ireturn, 1) := by decide +kernel
theorem dJ1_indexOfChar_4cfef_25 : decode cJ1_indexOfChar_4cfef 25 = .ok (.iinc 5 1, 3) := by decide +kernel
theorem dJ1_indexOfChar_4cfef_28 : decode cJ1_indexOfChar_4cfef 28 = .ok (.goto (-21), 3) := by decide +kernel
theorem dJ1_indexOfChar_4cfef_31 : decode cJ1_indexOfChar_4cfef 31 = .ok (.iconst (-1), 1) := by decide +kernel
theorem dJ1_indexOfChar_4cfef_32 : decode cJ1_indexOfChar_4cfef 32 = .ok (.ireturn, 1) := by decide +kernel
theorem dJ7_fill_53178_0 : decode cJ7_fill_53178 0 = .ok (.iconst 0, 1) := by decide +kernel
theorem dJ7_fill_53178_1 : decode cJ7_fill_53178 1 = .ok (.istore_n 2, 1) := by decide +kernel
theorem dJ7_fill_53178_2 : decode cJ7_fill_53178 2 = .ok (.aload_n 0, 1) := by decide +kernel
theorem dJ7_fill_53178_3 : decode cJ7_fill_53178 3 = .ok (.arraylength, 1) := by decide +kernel
theorem dJ7_fill_53178_4 : decode cJ7_fill_53178 4 = .ok (.istore_n 3, 1) := by decide +kernel
theorem dJ7_fill_53178_5 : decode cJ7_fill_53178 5 = .ok (.iload_n 2, 1) := by decide +kernel
theorem dJ7_fill_53178_6 : decode cJ7_fill_53178 6 = .ok (.iload_n 3, 1) := by decide +kernel
theorem dJ7_fill_53178_7 : decode cJ7_fill_53178 7 = .ok (.if_icmp .ge 13, 3) := by decide +kernel
theorem dJ7_fill_53178_10 : decode cJ7_fill_53178 10 = .ok (.aload_n 0, 1) := by decide +kernel
theorem dJ7_fill_53178_11 : decode cJ7_fill_53178 11 = .ok (.iload_n 2, 1) := by decide +kernel
theorem dJ7_fill_53178_12 : decode cJ7_fill_53178 12 = .ok (.iload_n 1, 1) := by decide +kernel
theorem dJ7_fill_53178_13 : decode cJ7_fill_53178 13 = .ok (.iastore, 1) := by decide +kernel
theorem dJ7_fill_53178_14 : decode cJ7_fill_53178 14 = .ok (.iinc 2 1, 3) := by decide +kernel
theorem dJ7_fill_53178_17 : decode cJ7_fill_53178 17 = .ok (.goto (-12), 3) := by decide +kernel
theorem dJ7_fill_53178_20 : decode cJ7_fill_53178 20 = .ok (.return_, 1) := by decide +kernel
theorem dJ7_copyOf_59c91_0 : decode cJ7_copyOf_59c91 0 = .ok (.iload_n 1, 1) := by decide +kernel
theorem dJ7_copyOf_59c91_1 : decode cJ7_copyOf_59c91 1 = .ok (.aload_n 0, 1) := by decide +kernel
theorem dJ7_copyOf_59c91_2 : decode cJ7_copyOf_59c91 2 = .ok (.arraylength, 1) := by decide +kernel
theorem dJ7_copyOf_59c91_3 : decode cJ7_copyOf_59c91 3 = .ok (.if_icmp .ne 11, 3) := by decide +kernel
theorem dJ7_copyOf_59c91_6 : decode cJ7_copyOf_59c91 6 = .ok (.aload_n 0, 1) := by decide +kernel
theorem dJ7_copyOf_59c91_7 : decode cJ7_copyOf_59c91 7 = .ok (.invokevirtual 316, 3) := by decide +kernel
theorem dJ7_copyOf_59c91_10 : decode cJ7_copyOf_59c91 10 = .ok (.checkcast 317, 3) := by decide +kernel
theorem dJ7_copyOf_59c91_13 : decode cJ7_copyOf_59c91 13 = .ok (.areturn, 1) := by decide +kernel
theorem dJ7_copyOf_59c91_14 : decode cJ7_copyOf_59c91 14 = .ok (.iload_n 1, 1) := by decide +kernel
theorem dJ7_copyOf_59c91_15 : decode cJ7_copyOf_59c91 15 = .ok (.newarray .int, 2) := by decide +kernel
theorem dJ7_copyOf_59c91_17 : decode cJ7_copyOf_59c91 17 = .ok (.astore_n 2, 1) := by decide +kernel
theorem dJ7_copyOf_59c91_18 : decode cJ7_copyOf_59c91 18 = .ok (.aload_n 0, 1) := by decide +kernel
theorem dJ7_copyOf_59c91_19 : decode cJ7_copyOf_59c91 19 = .ok (.iconst 0, 1) := by decide +kernel
theorem dJ7_copyOf_59c91_20 : decode cJ7_copyOf_59c91 20 = .ok (.aload_n 2, 1) := by decide +kernel
theorem dJ7_copyOf_59c91_21 : decode cJ7_copyOf_59c91 21 = .ok (.iconst 0, 1) := by decide +kernel
theorem dJ7_copyOf_59c91_22 : decode cJ7_copyOf_59c91 22 = .ok (.aload_n 0, 1) := by decide +kernel
theorem dJ7_copyOf_59c91_23 : decode cJ7_copyOf_59c91 23 = .ok (.arraylength, 1) := by decide +kernel
theorem dJ7_copyOf_59c91_24 : decode cJ7_copyOf_59c91 24 = .ok (.iload_n 1, 1) := by decide +kernel
theorem dJ7_copyOf_59c91_25 : decode cJ7_copyOf_59c91 25 = .ok (.invokestatic 304, 3) := by decide +kernel
theorem dJ7_copyOf_59c91_28 : decode cJ7_copyOf_59c91 28 = .ok (.invokestatic 150, 3) := by decide +kernel
theorem dJ7_copyOf_59c91_31 : decode cJ7_copyOf_59c91 31 = .ok (.aload_n 2, 1) := by decide +kernel
theorem dJ7_copyOf_59c91_32 : decode cJ7_copyOf_59c91 32 = .ok (.areturn, 1) := by decide +kernel
theorem dJ7_copyOf_c38d5_0 : decode cJ7_copyOf_c38d5 0 = .ok (.iload_n 1, 1) := by decide +kernel
theorem dJ7_copyOf_c38d5_1 : decode cJ7_copyOf_c38d5 1 = .ok (.aload_n 0, 1) := by decide +kernel
theorem dJ7_copyOf_c38d5_2 : decode cJ7_copyOf_c38d5 2 = .ok (.arraylength, 1) := by decide +kernel
theorem dJ7_copyOf_c38d5_3 : decode cJ7_copyOf_c38d5 3 = .ok (.if_icmp .ne 11, 3) := by decide +kernel
theorem dJ7_copyOf_c38d5_6 : decode cJ7_copyOf_c38d5 6 = .ok (.aload_n 0, 1) := by decide +kernel
theorem dJ7_copyOf_c38d5_7 : decode cJ7_copyOf_c38d5 7 = .ok (.invokevirtual 319, 3) := by decide +kernel
theorem dJ7_copyOf_c38d5_10 : decode cJ7_copyOf_c38d5 10 = .ok (.checkcast 320, 3) := by decide +kernel
theorem dJ7_copyOf_c38d5_13 : decode cJ7_copyOf_c38d5 13 = .ok (.areturn, 1) := by decide +kernel
theorem dJ7_copyOf_c38d5_14 : decode cJ7_copyOf_c38d5 14 = .ok (.iload_n 1, 1) := by decide +kernel
theorem dJ7_copyOf_c38d5_15 : decode cJ7_copyOf_c38d5 15 = .ok (.newarray .long, 2) := by decide +kernel
theorem dJ7_copyOf_c38d5_17 : decode cJ7_copyOf_c38d5 17 = .ok (.astore_n 2, 1) := by decide +kernel
theorem dJ7_copyOf_c38d5_18 : decode cJ7_copyOf_c38d5 18 = .ok (.aload_n 0, 1) := by decide +kernel
theorem dJ7_copyOf_c38d5_19 : decode cJ7_copyOf_c38d5 19 = .ok (.iconst 0, 1) := by decide +kernel
theorem dJ7_copyOf_c38d5_20 : decode cJ7_copyOf_c38d5 20 = .ok (.aload_n 2, 1) := by decide +kernel
theorem dJ7_copyOf_c38d5_21 : decode cJ7_copyOf_c38d5 21 = .ok (.iconst 0, 1) := by decide +kernel
theorem dJ7_copyOf_c38d5_22 : decode cJ7_copyOf_c38d5 22 = .ok (.aload_n 0, 1) := by decide +kernel
theorem dJ7_copyOf_c38d5_23 : decode cJ7_copyOf_c38d5 23 = .ok (.arraylength, 1) := by decide +kernel
theorem dJ7_copyOf_c38d5_24 : decode cJ7_copyOf_c38d5 24 = .ok (.iload_n 1, 1) := by decide +kernel
theorem dJ7_copyOf_c38d5_25 : decode cJ7_copyOf_c38d5 25 = .ok (.invokestatic 304, 3) := by decide +kernel
theorem dJ7_copyOf_c38d5_28 : decode cJ7_copyOf_c38d5 28 = .ok (.invokestatic 150, 3) := by decide +kernel
theorem dJ7_copyOf_c38d5_31 : decode cJ7_copyOf_c38d5 31 = .ok (.aload_n 2, 1) := by decide +kernel
theorem dJ7_copyOf_c38d5_32 : decode cJ7_copyOf_c38d5 32 = .ok (.areturn, 1) := by decide +kernel
theorem dJ3_checkIndex_8e157_0 : decode cJ3_checkIndex_8e157 0 = .ok (.iload_n 0, 1) := by decide +kernel
theorem dJ3_checkIndex_8e157_1 : decode cJ3_checkIndex_8e157 1 = .ok (.ifCond .lt 8, 3) := by decide +kernel
theorem dJ3_checkIndex_8e157_4 : decode cJ3_checkIndex_8e157 4 = .ok (.iload_n 0, 1) := by decide +kernel
theorem dJ3_checkIndex_8e157_5 : decode cJ3_checkIndex_8e157 5 = .ok (.iload_n 1, 1) := by decide +kernel
theorem dJ3_checkIndex_8e157_6 : decode cJ3_checkIndex_8e157 6 = .ok (.if_icmp .lt 10, 3) := by decide +kernel
theorem dJ3_checkIndex_8e157_9 : decode cJ3_checkIndex_8e157 9 = .ok (.aload_n 2, 1) := by decide +kernel
theorem dJ3_checkIndex_8e157_10 : decode cJ3_checkIndex_8e157 10 = .ok (.iload_n 0, 1) := by decide +kernel
theorem dJ3_checkIndex_8e157_11 : decode cJ3_checkIndex_8e157 11 = .ok (.iload_n 1, 1) := by decide +kernel
theorem dJ3_checkIndex_8e157_12 : decode cJ3_checkIndex_8e157 12 = .ok (.invokestatic 95, 3) := by decide +kernel
theorem dJ3_checkIndex_8e157_15 : decode cJ3_checkIndex_8e157 15 = .ok (.athrow, 1) := by decide +kernel
theorem dJ3_checkIndex_8e157_16 : decode cJ3_checkIndex_8e157 16 = .ok (.iload_n 0, 1) := by decide +kernel
theorem dJ3_checkIndex_8e157_17 : decode cJ3_checkIndex_8e157 17 = .ok (.ireturn, 1) := by decide +kernel
theorem dJ3_checkFromToIndex_8c36e_0 : decode cJ3_checkFromToIndex_8c36e 0 = .ok (.iload_n 0, 1) := by decide +kernel
theorem dJ3_checkFromToIndex_8c36e_1 : decode cJ3_checkFromToIndex_8c36e 1 = .ok (.ifCond .lt 13, 3) := by decide +kernel
theorem dJ3_checkFromToIndex_8c36e_4 : decode cJ3_checkFromToIndex_8c36e 4 = .ok (.iload_n 0, 1) := by decide +kernel
theorem dJ3_checkFromToIndex_8c36e_5 : decode cJ3_checkFromToIndex_8c36e 5 = .ok (.iload_n 1, 1) := by decide +kernel
theorem dJ3_checkFromToIndex_8c36e_6 : decode cJ3_checkFromToIndex_8c36e 6 = .ok (.if_icmp .gt 8, 3) := by decide +kernel
theorem dJ3_checkFromToIndex_8c36e_9 : decode cJ3_checkFromToIndex_8c36e 9 = .ok (.iload_n 1, 1) := by decide +kernel
theorem dJ3_checkFromToIndex_8c36e_10 : decode cJ3_checkFromToIndex_8c36e 10 = .ok (.iload_n 2, 1) := by decide +kernel
theorem dJ3_checkFromToIndex_8c36e_11 : decode cJ3_checkFromToIndex_8c36e 11 = .ok (.if_icmp .le 11, 3) := by decide +kernel
theorem dJ3_checkFromToIndex_8c36e_14 : decode cJ3_checkFromToIndex_8c36e 14 = .ok (.aload_n 3, 1) := by decide +kernel
theorem dJ3_checkFromToIndex_8c36e_15 : decode cJ3_checkFromToIndex_8c36e 15 = .ok (.iload_n 0, 1) := by decide +kernel
theorem dJ3_checkFromToIndex_8c36e_16 : decode cJ3_checkFromToIndex_8c36e 16 = .ok (.iload_n 1, 1) := by decide +kernel
theorem dJ3_checkFromToIndex_8c36e_17 : decode cJ3_checkFromToIndex_8c36e 17 = .ok (.iload_n 2, 1) := by decide +kernel
theorem dJ3_checkFromToIndex_8c36e_18 : decode cJ3_checkFromToIndex_8c36e 18 = .ok (.invokestatic 99, 3) := by decide +kernel
theorem dJ3_checkFromToIndex_8c36e_21 : decode cJ3_checkFromToIndex_8c36e 21 = .ok (.athrow, 1) := by decide +kernel
theorem dJ3_checkFromToIndex_8c36e_22 : decode cJ3_checkFromToIndex_8c36e 22 = .ok (.iload_n 0, 1) := by decide +kernel
theorem dJ3_checkFromToIndex_8c36e_23 : decode cJ3_checkFromToIndex_8c36e 23 = .ok (.ireturn, 1) := by decide +kernel
theorem dJ9_max_7cf53_0 : decode cJ9_max_7cf53 0 = .ok (.iload_n 0, 1) := by decide +kernel
theorem dJ9_max_7cf53_1 : decode cJ9_max_7cf53 1 = .ok (.iload_n 1, 1) := by decide +kernel
theorem dJ9_max_7cf53_2 : decode cJ9_max_7cf53 2 = .ok (.if_icmp .lt 7, 3) := by decide +kernel
theorem dJ9_max_7cf53_5 : decode cJ9_max_7cf53 5 = .ok (.iload_n 0, 1) := by decide +kernel
theorem dJ9_max_7cf53_6 : decode cJ9_max_7cf53 6 = .ok (.goto 4, 3) := by decide +kernel
theorem dJ9_max_7cf53_9 : decode cJ9_max_7cf53 9 = .ok (.iload_n 1, 1) := by decide +kernel
theorem dJ9_max_7cf53_10 : decode cJ9_max_7cf53 10 = .ok (.ireturn, 1) := by decide +kernel
theorem dJ9_max_f86c9_0 : decode cJ9_max_f86c9 0 = .ok (.lload_n 0, 1) := by decide +kernel
theorem dJ9_max_f86c9_1 : decode cJ9_max_f86c9 1 = .ok (.lload_n 2, 1) := by decide +kernel
theorem dJ9_max_f86c9_2 : decode cJ9_max_f86c9 2 = .ok (.lcmp, 1) := by decide +kernel
theorem dJ9_max_f86c9_3 : decode cJ9_max_f86c9 3 = .ok (.ifCond .lt 7, 3) := by decide +kernel
theorem dJ9_max_f86c9_6 : decode cJ9_max_f86c9 6 = .ok (.lload_n 0, 1) := by decide +kernel
theorem dJ9_max_f86c9_7 : decode cJ9_max_f86c9 7 = .ok (.goto 4, 3) := by decide +kernel
theorem dJ9_max_f86c9_10 : decode cJ9_max_f86c9 10 = .ok (.lload_n 2, 1) := by decide +kernel
theorem dJ9_max_f86c9_11 : decode cJ9_max_f86c9 11 = .ok (.lreturn, 1) := by decide +kernel
theorem dJ9_min_7cf53_0 : decode cJ9_min_7cf53 0 = .ok (.iload_n 0, 1) := by decide +kernel
theorem dJ9_min_7cf53_1 : decode cJ9_min_7cf53 1 = .ok (.iload_n 1, 1) := by decide +kernel
theorem dJ9_min_7cf53_2 : decode cJ9_min_7cf53 2 = .ok (.if_icmp .gt 7, 3) := by decide +kernel
theorem dJ9_min_7cf53_5 : decode cJ9_min_7cf53 5 = .ok (.iload_n 0, 1) := by decide +kernel
theorem dJ9_min_7cf53_6 : decode cJ9_min_7cf53 6 = .ok (.goto 4, 3) := by decide +kernel
theorem dJ9_min_7cf53_9 : decode cJ9_min_7cf53 9 = .ok (.iload_n 1, 1) := by decide +kernel
theorem dJ9_min_7cf53_10 : decode cJ9_min_7cf53 10 = .ok (.ireturn, 1) := by decide +kernel
theorem dL_law_0 : decode cL_law 0 = .ok (.new 7, 3) := by decide +kernel
theorem dL_law_3 : decode cL_law 3 = .ok (.dup, 1) := by decide +kernel
theorem dL_law_4 : decode cL_law 4 = .ok (.invokespecial 9, 3) := by decide +kernel
theorem dL_law_7 : decode cL_law 7 = .ok (.astore_n 1, 1) := by decide +kernel
theorem dL_law_8 : decode cL_law 8 = .ok (.new 10, 3) := by decide +kernel
theorem dL_law_11 : decode cL_law 11 = .ok (.dup, 1) := by decide +kernel
theorem dL_law_12 : decode cL_law 12 = .ok (.invokespecial 12, 3) := by decide +kernel
theorem dL_law_15 : decode cL_law 15 = .ok (.astore_n 2, 1) := by decide +kernel
theorem dL_law_16 : decode cL_law 16 = .ok (.iconst 0, 1) := by decide +kernel
theorem dL_law_17 : decode cL_law 17 = .ok (.istore_n 3, 1) := by decide +kernel
theorem dL_law_18 : decode cL_law 18 = .ok (.iload_n 3, 1) := by decide +kernel
theorem dL_law_19 : decode cL_law 19 = .ok (.aload_n 0, 1) := by decide +kernel
theorem dL_law_20 : decode cL_law 20 = .ok (.arraylength, 1) := by decide +kernel
theorem dL_law_21 : decode cL_law 21 = .ok (.bipush 6, 2) := by decide +kernel
theorem dL_law_23 : decode cL_law 23 = .ok (.isub, 1) := by decide +kernel
theorem dL_law_24 : decode cL_law 24 = .ok (.if_icmp .gt 271, 3) := by decide +kernel
theorem dL_law_27 : decode cL_law 27 = .ok (.aload_n 0, 1) := by decide +kernel
theorem dL_law_28 : decode cL_law 28 = .ok (.iload_n 3, 1) := by decide +kernel
theorem dL_law_29 : decode cL_law 29 = .ok (.iaload, 1) := by decide +kernel
theorem dL_law_30 : decode cL_law 30 = .ok (.bipush 15, 2) := by decide +kernel
theorem dL_law_32 : decode cL_law 32 = .ok (.iand, 1) := by decide +kernel
theorem dL_law_33 : decode cL_law 33 = .ok (.tableswitch 256 0 8 #[51, 112, 135, 158, 171, 194, 207, 220, 233], 51) := by decide +kernel
theorem dL_law_84 : decode cL_law 84 = .ok (.aload_n 1, 1) := by decide +kernel
theorem dL_law_85 : decode cL_law 85 = .ok (.aload_n 0, 1) := by decide +kernel
theorem dL_law_86 : decode cL_law 86 = .ok (.iload_n 3, 1) := by decide +kernel
theorem dL_law_87 : decode cL_law 87 = .ok (.iconst 1, 1) := by decide +kernel
theorem dL_law_88 : decode cL_law 88 = .ok (.iadd, 1) := by decide +kernel
theorem dL_law_89 : decode cL_law 89 = .ok (.iaload, 1) := by decide +kernel
theorem dL_law_90 : decode cL_law 90 = .ok (.aload_n 0, 1) := by decide +kernel
theorem dL_law_91 : decode cL_law 91 = .ok (.iload_n 3, 1) := by decide +kernel
theorem dL_law_92 : decode cL_law 92 = .ok (.iconst 2, 1) := by decide +kernel
theorem dL_law_93 : decode cL_law 93 = .ok (.iadd, 1) := by decide +kernel
theorem dL_law_94 : decode cL_law 94 = .ok (.iaload, 1) := by decide +kernel
theorem dL_law_95 : decode cL_law 95 = .ok (.aload_n 0, 1) := by decide +kernel
theorem dL_law_96 : decode cL_law 96 = .ok (.iload_n 3, 1) := by decide +kernel
theorem dL_law_97 : decode cL_law 97 = .ok (.iconst 3, 1) := by decide +kernel
theorem dL_law_98 : decode cL_law 98 = .ok (.iadd, 1) := by decide +kernel
theorem dL_law_99 : decode cL_law 99 = .ok (.iaload, 1) := by decide +kernel
theorem dL_law_100 : decode cL_law 100 = .ok (.aload_n 0, 1) := by decide +kernel
theorem dL_law_101 : decode cL_law 101 = .ok (.iload_n 3, 1) := by decide +kernel
theorem dL_law_102 : decode cL_law 102 = .ok (.iconst 4, 1) := by decide +kernel
theorem dL_law_103 : decode cL_law 103 = .ok (.iadd, 1) := by decide +kernel
theorem dL_law_104 : decode cL_law 104 = .ok (.iaload, 1) := by decide +kernel
theorem dL_law_105 : decode cL_law 105 = .ok (.aload_n 0, 1) := by decide +kernel
theorem dL_law_106 : decode cL_law 106 = .ok (.iload_n 3, 1) := by decide +kernel
theorem dL_law_107 : decode cL_law 107 = .ok (.iconst 5, 1) := by decide +kernel
theorem dL_law_108 : decode cL_law 108 = .ok (.iadd, 1) := by decide +kernel
theorem dL_law_109 : decode cL_law 109 = .ok (.iaload, 1) := by decide +kernel
theorem dL_law_110 : decode cL_law 110 = .ok (.invokevirtual 13, 3) := by decide +kernel
theorem dL_law_113 : decode cL_law 113 = .ok (.aload_n 2, 1) := by decide +kernel
theorem dL_law_114 : decode cL_law 114 = .ok (.aload_n 0, 1) := by decide +kernel
theorem dL_law_115 : decode cL_law 115 = .ok (.iload_n 3, 1) := by decide +kernel
theorem dL_law_116 : decode cL_law 116 = .ok (.iconst 1, 1) := by decide +kernel
theorem dL_law_117 : decode cL_law 117 = .ok (.iadd, 1) := by decide +kernel
theorem dL_law_118 : decode cL_law 118 = .ok (.iaload, 1) := by decide +kernel
theorem dL_law_119 : decode cL_law 119 = .ok (.aload_n 0, 1) := by decide +kernel
theorem dL_law_120 : decode cL_law 120 = .ok (.iload_n 3, 1) := by decide +kernel
theorem dL_law_121 : decode cL_law 121 = .ok (.iconst 2, 1) := by decide +kernel
theorem dL_law_122 : decode cL_law 122 = .ok (.iadd, 1) := by decide +kernel
theorem dL_law_123 : decode cL_law 123 = .ok (.iaload, 1) := by decide +kernel
theorem dL_law_124 : decode cL_law 124 = .ok (.aload_n 0, 1) := by decide +kernel
theorem dL_law_125 : decode cL_law 125 = .ok (.iload_n 3, 1) := by decide +kernel
theorem dL_law_126 : decode cL_law 126 = .ok (.iconst 3, 1) := by decide +kernel
theorem dL_law_127 : decode cL_law 127 = .ok (.iadd, 1) := by decide +kernel
theorem dL_law_128 : decode cL_law 128 = .ok (.iaload, 1) := by decide +kernel
theorem dL_law_129 : decode cL_law 129 = .ok (.aload_n 0, 1) := by decide +kernel
theorem dL_law_130 : decode cL_law 130 = .ok (.iload_n 3, 1) := by decide +kernel
theorem dL_law_131 : decode cL_law 131 = .ok (.iconst 4, 1) := by decide +kernel
theorem dL_law_132 : decode cL_law 132 = .ok (.iadd, 1) := by decide +kernel
theorem dL_law_133 : decode cL_law 133 = .ok (.iaload, 1) := by decide +kernel
theorem dL_law_134 : decode cL_law 134 = .ok (.aload_n 0, 1) := by decide +kernel
theorem dL_law_135 : decode cL_law 135 = .ok (.iload_n 3, 1) := by decide +kernel
theorem dL_law_136 : decode cL_law 136 = .ok (.iconst 5, 1) := by decide +kernel
theorem dL_law_137 : decode cL_law 137 = .ok (.iadd, 1) := by decide +kernel
theorem dL_law_138 : decode cL_law 138 = .ok (.iaload, 1) := by decide +kernel
theorem dL_law_139 : decode cL_law 139 = .ok (.invokevirtual 17, 3) := by decide +kernel
theorem dL_law_142 : decode cL_law 142 = .ok (.goto 147, 3) := by decide +kernel
theorem dL_law_145 : decode cL_law 145 = .ok (.aload_n 1, 1) := by decide +kernel
theorem dL_law_146 : decode cL_law 146 = .ok (.aload_n 0, 1) := by decide +kernel
theorem dL_law_147 : decode cL_law 147 = .ok (.iload_n 3, 1) := by decide +kernel
theorem dL_law_148 : decode cL_law 148 = .ok (.iconst 1, 1) := by decide +kernel
theorem dL_law_149 : decode cL_law 149 = .ok (.iadd, 1) := by decide +kernel
theorem dL_law_150 : decode cL_law 150 = .ok (.iaload, 1) := by decide +kernel
theorem dL_law_151 : decode cL_law 151 = .ok (.invokevirtual 18, 3) := by decide +kernel
theorem dL_law_154 : decode cL_law 154 = .ok (.aload_n 2, 1) := by decide +kernel
theorem dL_law_155 : decode cL_law 155 = .ok (.aload_n 0, 1) := by decide +kernel
theorem dL_law_156 : decode cL_law 156 = .ok (.iload_n 3, 1) := by decide +kernel
theorem dL_law_157 : decode cL_law 157 = .ok (.iconst 1, 1) := by decide +kernel
theorem dL_law_158 : decode cL_law 158 = .ok (.iadd, 1) := by decide +kernel
theorem dL_law_159 : decode cL_law 159 = .ok (.iaload, 1) := by decide +kernel
theorem dL_law_160 : decode cL_law 160 = .ok (.invokevirtual 22, 3) := by decide +kernel
theorem dL_law_163 : decode cL_law 163 = .ok (.if_icmp .eq 126, 3) := by decide +kernel
theorem dL_law_166 : decode cL_law 166 = .ok (.iconst 0, 1) := by decide +kernel
theorem dL_law_167 : decode cL_law 167 = .ok (.ireturn, 1) := by decide +kernel
theorem dL_law_168 : decode cL_law 168 = .ok (.aload_n 1, 1) := by decide +kernel
theorem dL_law_169 : decode cL_law 169 = .ok (.aload_n 0, 1) := by decide +kernel
theorem dL_law_170 : decode cL_law 170 = .ok (.iload_n 3, 1) := by decide +kernel
theorem dL_law_171 : decode cL_law 171 = .ok (.iconst 1, 1) := by decide +kernel
theorem dL_law_172 : decode cL_law 172 = .ok (.iadd, 1) := by decide +kernel
theorem dL_law_173 : decode cL_law 173 = .ok (.iaload, 1) := by decide +kernel
theorem dL_law_174 : decode cL_law 174 = .ok (.invokevirtual 23, 3) := by decide +kernel
theorem dL_law_177 : decode cL_law 177 = .ok (.aload_n 2, 1) := by decide +kernel
theorem dL_law_178 : decode cL_law 178 = .ok (.aload_n 0, 1) := by decide +kernel
theorem dL_law_179 : decode cL_law 179 = .ok (.iload_n 3, 1) := by decide +kernel
theorem dL_law_180 : decode cL_law 180 = .ok (.iconst 1, 1) := by decide +kernel
theorem dL_law_181 : decode cL_law 181 = .ok (.iadd, 1) := by decide +kernel
theorem dL_law_182 : decode cL_law 182 = .ok (.iaload, 1) := by decide +kernel
theorem dL_law_183 : decode cL_law 183 = .ok (.invokevirtual 26, 3) := by decide +kernel
theorem dL_law_186 : decode cL_law 186 = .ok (.if_icmp .eq 103, 3) := by decide +kernel
theorem dL_law_189 : decode cL_law 189 = .ok (.iconst 0, 1) := by decide +kernel
theorem dL_law_190 : decode cL_law 190 = .ok (.ireturn, 1) := by decide +kernel
theorem dL_law_191 : decode cL_law 191 = .ok (.aload_n 1, 1) := by decide +kernel
theorem dL_law_192 : decode cL_law 192 = .ok (.invokevirtual 27, 3) := by decide +kernel
theorem dL_law_195 : decode cL_law 195 = .ok (.aload_n 2, 1) := by decide +kernel
theorem dL_law_196 : decode cL_law 196 = .ok (.invokevirtual 31, 3) := by decide +kernel
theorem dL_law_199 : decode cL_law 199 = .ok (.if_icmp .eq 90, 3) := by decide +kernel
theorem dL_law_202 : decode cL_law 202 = .ok (.iconst 0, 1) := by decide +kernel
theorem dL_law_203 : decode cL_law 203 = .ok (.ireturn, 1) := by decide +kernel
theorem dL_law_204 : decode cL_law 204 = .ok (.aload_n 1, 1) := by decide +kernel
theorem dL_law_205 : decode cL_law 205 = .ok (.aload_n 0, 1) := by decide +kernel
theorem dL_law_206 : decode cL_law 206 = .ok (.iload_n 3, 1) := by decide +kernel
theorem dL_law_207 : decode cL_law 207 = .ok (.iconst 1, 1) := by decide +kernel
theorem dL_law_208 : decode cL_law 208 = .ok (.iadd, 1) := by decide +kernel
theorem dL_law_209 : decode cL_law 209 = .ok (.iaload, 1) := by decide +kernel
theorem dL_law_210 : decode cL_law 210 = .ok (.invokevirtual 32, 3) := by decide +kernel
theorem dL_law_213 : decode cL_law 213 = .ok (.aload_n 2, 1) := by decide +kernel
theorem dL_law_214 : decode cL_law 214 = .ok (.aload_n 0, 1) := by decide +kernel
theorem dL_law_215 : decode cL_law 215 = .ok (.iload_n 3, 1) := by decide +kernel
theorem dL_law_216 : decode cL_law 216 = .ok (.iconst 1, 1) := by decide +kernel
theorem dL_law_217 : decode cL_law 217 = .ok (.iadd, 1) := by decide +kernel
theorem dL_law_218 : decode cL_law 218 = .ok (.iaload, 1) := by decide +kernel
theorem dL_law_219 : decode cL_law 219 = .ok (.invokevirtual 35, 3) := by decide +kernel
theorem dL_law_222 : decode cL_law 222 = .ok (.if_icmp .eq 67, 3) := by decide +kernel
theorem dL_law_225 : decode cL_law 225 = .ok (.iconst 0, 1) := by decide +kernel
theorem dL_law_226 : decode cL_law 226 = .ok (.ireturn, 1) := by decide +kernel
theorem dL_law_227 : decode cL_law 227 = .ok (.aload_n 1, 1) := by decide +kernel
theorem dL_law_228 : decode cL_law 228 = .ok (.invokevirtual 36, 3) := by decide +kernel
theorem dL_law_231 : decode cL_law 231 = .ok (.aload_n 2, 1) := by decide +kernel
theorem dL_law_232 : decode cL_law 232 = .ok (.invokevirtual 39, 3) := by decide +kernel
theorem dL_law_235 : decode cL_law 235 = .ok (.if_icmp .eq 54, 3) := by decide +kernel
theorem dL_law_238 : decode cL_law 238 = .ok (.iconst 0, 1) := by decide +kernel
theorem dL_law_239 : decode cL_law 239 = .ok (.ireturn, 1) := by decide +kernel
theorem dL_law_240 : decode cL_law 240 = .ok (.aload_n 1, 1) := by decide +kernel
theorem dL_law_241 : decode cL_law 241 = .ok (.invokevirtual 40, 3) := by decide +kernel
theorem dL_law_244 : decode cL_law 244 = .ok (.aload_n 2, 1) := by decide +kernel
theorem dL_law_245 : decode cL_law 245 = .ok (.invokevirtual 43, 3) := by decide +kernel
theorem dL_law_248 : decode cL_law 248 = .ok (.if_icmp .eq 41, 3) := by decide +kernel
theorem dL_law_251 : decode cL_law 251 = .ok (.iconst 0, 1) := by decide +kernel
theorem dL_law_252 : decode cL_law 252 = .ok (.ireturn, 1) := by decide +kernel
theorem dL_law_253 : decode cL_law 253 = .ok (.aload_n 1, 1) := by decide +kernel
theorem dL_law_254 : decode cL_law 254 = .ok (.invokevirtual 44, 3) := by decide +kernel
theorem dL_law_257 : decode cL_law 257 = .ok (.aload_n 2, 1) := by decide +kernel
theorem dL_law_258 : decode cL_law 258 = .ok (.invokevirtual 47, 3) := by decide +kernel
theorem dL_law_261 : decode cL_law 261 = .ok (.if_icmp .eq 28, 3) := by decide +kernel
theorem dL_law_264 : decode cL_law 264 = .ok (.iconst 0, 1) := by decide +kernel
theorem dL_law_265 : decode cL_law 265 = .ok (.ireturn, 1) := by decide +kernel
theorem dL_law_266 : decode cL_law 266 = .ok (.aload_n 1, 1) := by decide +kernel
theorem dL_law_267 : decode cL_law 267 = .ok (.aload_n 0, 1) := by decide +kernel
theorem dL_law_268 : decode cL_law 268 = .ok (.iload_n 3, 1) := by decide +kernel
theorem dL_law_269 : decode cL_law 269 = .ok (.iconst 1, 1) := by decide +kernel
theorem dL_law_270 : decode cL_law 270 = .ok (.iadd, 1) := by decide +kernel
theorem dL_law_271 : decode cL_law 271 = .ok (.iaload, 1) := by decide +kernel
theorem dL_law_272 : decode cL_law 272 = .ok (.invokevirtual 48, 3) := by decide +kernel
theorem dL_law_275 : decode cL_law 275 = .ok (.aload_n 2, 1) := by decide +kernel
theorem dL_law_276 : decode cL_law 276 = .ok (.aload_n 0, 1) := by decide +kernel
theorem dL_law_277 : decode cL_law 277 = .ok (.iload_n 3, 1) := by decide +kernel
theorem dL_law_278 : decode cL_law 278 = .ok (.iconst 1, 1) := by decide +kernel
theorem dL_law_279 : decode cL_law 279 = .ok (.iadd, 1) := by decide +kernel
theorem dL_law_280 : decode cL_law 280 = .ok (.iaload, 1) := by decide +kernel
theorem dL_law_281 : decode cL_law 281 = .ok (.invokevirtual 51, 3) := by decide +kernel
theorem dL_law_284 : decode cL_law 284 = .ok (.if_icmp .eq 5, 3) := by decide +kernel
theorem dL_law_287 : decode cL_law 287 = .ok (.iconst 0, 1) := by decide +kernel
theorem dL_law_288 : decode cL_law 288 = .ok (.ireturn, 1) := by decide +kernel
theorem dL_law_289 : decode cL_law 289 = .ok (.iinc 3 6, 3) := by decide +kernel
theorem dL_law_292 : decode cL_law 292 = .ok (.goto (-274), 3) := by decide +kernel
theorem dL_law_295 : decode cL_law 295 = .ok (.iconst 1, 1) := by decide +kernel
theorem dL_law_296 : decode cL_law 296 = .ok (.ireturn, 1) := by decide +kernel
end
