section
-- ===== PART A: goes FIRST, ahead of the names: the tables' words, and 'selects' of the private methods out of them =====
/-- a private method of a class that the tables say can be made, by its rows of tables_1 -/
def lw_okq (q : MethodName × Nat) : Prop := (q.1.cls ≠ "java/lang/invoke/MethodHandle" ∧ q.1.cls ≠ "java/lang/invoke/VarHandle") ∧ Cond.instantiable q.1.cls q.2 ∈ tables_1 ∧ Cond.privateMethod q.1 ∈ tables_1 ∧ Cond.instanceMethod q.1 ∈ tables_1
theorem lw_p0 : lw_okq (⟨"LispMachine$Store", "hold", "(JII)I"⟩, 6) := ⟨⟨by decide +kernel, by decide +kernel⟩, List.mem_of_getElem? (i := 29) (by decide +kernel), List.mem_of_getElem? (i := 148) (by decide +kernel), List.mem_of_getElem? (i := 149) (by decide +kernel)⟩
theorem lw_p1 : lw_okq (⟨"LispMachine$Reader", "behindBlanks", "(II)I"⟩, 14) := ⟨⟨by decide +kernel, by decide +kernel⟩, List.mem_of_getElem? (i := 180) (by decide +kernel), List.mem_of_getElem? (i := 463) (by decide +kernel), List.mem_of_getElem? (i := 464) (by decide +kernel)⟩
theorem lw_p2 : lw_okq (⟨"LispMachine$Reader", "behindWord", "(II)I"⟩, 14) := ⟨⟨by decide +kernel, by decide +kernel⟩, List.mem_of_getElem? (i := 180) (by decide +kernel), List.mem_of_getElem? (i := 467) (by decide +kernel), List.mem_of_getElem? (i := 468) (by decide +kernel)⟩
theorem lw_p3 : lw_okq (⟨"LispMachine$Reader", "faultOfWord", "(II)I"⟩, 14) := ⟨⟨by decide +kernel, by decide +kernel⟩, List.mem_of_getElem? (i := 180) (by decide +kernel), List.mem_of_getElem? (i := 476) (by decide +kernel), List.mem_of_getElem? (i := 477) (by decide +kernel)⟩
theorem lw_p4 : lw_okq (⟨"LispMachine$Reader", "scanAtom", "(II)Z"⟩, 14) := ⟨⟨by decide +kernel, by decide +kernel⟩, List.mem_of_getElem? (i := 180) (by decide +kernel), List.mem_of_getElem? (i := 480) (by decide +kernel), List.mem_of_getElem? (i := 481) (by decide +kernel)⟩
theorem lw_p5 : lw_okq (⟨"LispMachine$Reader", "mayStand", "(C)Z"⟩, 14) := ⟨⟨by decide +kernel, by decide +kernel⟩, List.mem_of_getElem? (i := 180) (by decide +kernel), List.mem_of_getElem? (i := 488) (by decide +kernel), List.mem_of_getElem? (i := 489) (by decide +kernel)⟩
theorem lw_p6 : lw_okq (⟨"LispMachine$Reader", "take", "(C)V"⟩, 14) := ⟨⟨by decide +kernel, by decide +kernel⟩, List.mem_of_getElem? (i := 180) (by decide +kernel), List.mem_of_getElem? (i := 492) (by decide +kernel), List.mem_of_getElem? (i := 493) (by decide +kernel)⟩
theorem lw_p7 : lw_okq (⟨"LispMachine$Reader", "openAt", "(I)V"⟩, 14) := ⟨⟨by decide +kernel, by decide +kernel⟩, List.mem_of_getElem? (i := 180) (by decide +kernel), List.mem_of_getElem? (i := 496) (by decide +kernel), List.mem_of_getElem? (i := 497) (by decide +kernel)⟩
theorem lw_p8 : lw_okq (⟨"LispMachine$Reader", "closeList", "()V"⟩, 14) := ⟨⟨by decide +kernel, by decide +kernel⟩, List.mem_of_getElem? (i := 180) (by decide +kernel), List.mem_of_getElem? (i := 500) (by decide +kernel), List.mem_of_getElem? (i := 501) (by decide +kernel)⟩
theorem lw_p9 : lw_okq (⟨"LispMachine$Reader", "finish", "(I)V"⟩, 14) := ⟨⟨by decide +kernel, by decide +kernel⟩, List.mem_of_getElem? (i := 180) (by decide +kernel), List.mem_of_getElem? (i := 513) (by decide +kernel), List.mem_of_getElem? (i := 514) (by decide +kernel)⟩
theorem lw_p10 : lw_okq (⟨"LispMachine$Commands", "evaluate", "(III)I"⟩, 6) := ⟨⟨by decide +kernel, by decide +kernel⟩, List.mem_of_getElem? (i := 322) (by decide +kernel), List.mem_of_getElem? (i := 554) (by decide +kernel), List.mem_of_getElem? (i := 555) (by decide +kernel)⟩
theorem lw_p11 : lw_okq (⟨"LispMachine$Terms", "startWith", "(I)V"⟩, 4) := ⟨⟨by decide +kernel, by decide +kernel⟩, List.mem_of_getElem? (i := 328) (by decide +kernel), List.mem_of_getElem? (i := 562) (by decide +kernel), List.mem_of_getElem? (i := 563) (by decide +kernel)⟩
theorem lw_p12 : lw_okq (⟨"LispMachine$Terms", "takesOf", "(I)I"⟩, 4) := ⟨⟨by decide +kernel, by decide +kernel⟩, List.mem_of_getElem? (i := 328) (by decide +kernel), List.mem_of_getElem? (i := 584) (by decide +kernel), List.mem_of_getElem? (i := 585) (by decide +kernel)⟩
theorem lw_p13 : lw_okq (⟨"LispMachine$Terms", "addTermsOf", "(I)Z"⟩, 4) := ⟨⟨by decide +kernel, by decide +kernel⟩, List.mem_of_getElem? (i := 328) (by decide +kernel), List.mem_of_getElem? (i := 596) (by decide +kernel), List.mem_of_getElem? (i := 597) (by decide +kernel)⟩
theorem lw_p14 : lw_okq (⟨"LispMachine$Evaluator", "evaluateNext", "(ILLispMachine$Call;)V"⟩, 12) := ⟨⟨by decide +kernel, by decide +kernel⟩, List.mem_of_getElem? (i := 273) (by decide +kernel), List.mem_of_getElem? (i := 604) (by decide +kernel), List.mem_of_getElem? (i := 605) (by decide +kernel)⟩
theorem lw_p15 : lw_okq (⟨"LispMachine$Evaluator", "beginTerm", "()V"⟩, 12) := ⟨⟨by decide +kernel, by decide +kernel⟩, List.mem_of_getElem? (i := 273) (by decide +kernel), List.mem_of_getElem? (i := 613) (by decide +kernel), List.mem_of_getElem? (i := 614) (by decide +kernel)⟩
def lw_privs_1 : List (MethodName × Nat) := [(⟨"LispMachine$Store", "hold", "(JII)I"⟩, 6), (⟨"LispMachine$Reader", "behindBlanks", "(II)I"⟩, 14), (⟨"LispMachine$Reader", "behindWord", "(II)I"⟩, 14), (⟨"LispMachine$Reader", "faultOfWord", "(II)I"⟩, 14), (⟨"LispMachine$Reader", "scanAtom", "(II)Z"⟩, 14), (⟨"LispMachine$Reader", "mayStand", "(C)Z"⟩, 14), (⟨"LispMachine$Reader", "take", "(C)V"⟩, 14), (⟨"LispMachine$Reader", "openAt", "(I)V"⟩, 14), (⟨"LispMachine$Reader", "closeList", "()V"⟩, 14), (⟨"LispMachine$Reader", "finish", "(I)V"⟩, 14), (⟨"LispMachine$Commands", "evaluate", "(III)I"⟩, 6), (⟨"LispMachine$Terms", "startWith", "(I)V"⟩, 4), (⟨"LispMachine$Terms", "takesOf", "(I)I"⟩, 4), (⟨"LispMachine$Terms", "addTermsOf", "(I)Z"⟩, 4), (⟨"LispMachine$Evaluator", "evaluateNext", "(ILLispMachine$Call;)V"⟩, 12), (⟨"LispMachine$Evaluator", "beginTerm", "()V"⟩, 12)]
theorem lw_r1 : ∀ q ∈ lw_privs_1, lw_okq q := List.forall_mem_cons.mpr ⟨lw_p0, List.forall_mem_cons.mpr ⟨lw_p1, List.forall_mem_cons.mpr ⟨lw_p2, List.forall_mem_cons.mpr ⟨lw_p3, List.forall_mem_cons.mpr ⟨lw_p4, List.forall_mem_cons.mpr ⟨lw_p5, List.forall_mem_cons.mpr ⟨lw_p6, List.forall_mem_cons.mpr ⟨lw_p7, List.forall_mem_cons.mpr ⟨lw_p8, List.forall_mem_cons.mpr ⟨lw_p9, List.forall_mem_cons.mpr ⟨lw_p10, List.forall_mem_cons.mpr ⟨lw_p11, List.forall_mem_cons.mpr ⟨lw_p12, List.forall_mem_cons.mpr ⟨lw_p13, List.forall_mem_cons.mpr ⟨lw_p14, List.forall_mem_cons.mpr ⟨lw_p15, fun _ h => absurd h List.not_mem_nil⟩⟩⟩⟩⟩⟩⟩⟩⟩⟩⟩⟩⟩⟩⟩⟩
theorem lw_p16 : lw_okq (⟨"LispMachine$Evaluator", "boundValueOf", "(I)I"⟩, 12) := ⟨⟨by decide +kernel, by decide +kernel⟩, List.mem_of_getElem? (i := 273) (by decide +kernel), List.mem_of_getElem? (i := 618) (by decide +kernel), List.mem_of_getElem? (i := 619) (by decide +kernel)⟩
theorem lw_p17 : lw_okq (⟨"LispMachine$Evaluator", "argumentOf", "(LLispMachine$Call;I)I"⟩, 12) := ⟨⟨by decide +kernel, by decide +kernel⟩, List.mem_of_getElem? (i := 273) (by decide +kernel), List.mem_of_getElem? (i := 625) (by decide +kernel), List.mem_of_getElem? (i := 626) (by decide +kernel)⟩
theorem lw_p18 : lw_okq (⟨"LispMachine$Evaluator", "answer", "(I)V"⟩, 12) := ⟨⟨by decide +kernel, by decide +kernel⟩, List.mem_of_getElem? (i := 273) (by decide +kernel), List.mem_of_getElem? (i := 629) (by decide +kernel), List.mem_of_getElem? (i := 630) (by decide +kernel)⟩
theorem lw_p19 : lw_okq (⟨"LispMachine$Evaluator", "openCall", "(II)V"⟩, 12) := ⟨⟨by decide +kernel, by decide +kernel⟩, List.mem_of_getElem? (i := 273) (by decide +kernel), List.mem_of_getElem? (i := 634) (by decide +kernel), List.mem_of_getElem? (i := 635) (by decide +kernel)⟩
theorem lw_p20 : lw_okq (⟨"LispMachine$Evaluator", "handOverValue", "(LLispMachine$Call;)V"⟩, 12) := ⟨⟨by decide +kernel, by decide +kernel⟩, List.mem_of_getElem? (i := 273) (by decide +kernel), List.mem_of_getElem? (i := 676) (by decide +kernel), List.mem_of_getElem? (i := 677) (by decide +kernel)⟩
theorem lw_p21 : lw_okq (⟨"LispMachine$Evaluator", "applyBase", "(LLispMachine$Call;)V"⟩, 12) := ⟨⟨by decide +kernel, by decide +kernel⟩, List.mem_of_getElem? (i := 273) (by decide +kernel), List.mem_of_getElem? (i := 684) (by decide +kernel), List.mem_of_getElem? (i := 685) (by decide +kernel)⟩
theorem lw_p22 : lw_okq (⟨"LispMachine$Commands", "boundVariables", "(I)I"⟩, 6) := ⟨⟨by decide +kernel, by decide +kernel⟩, List.mem_of_getElem? (i := 322) (by decide +kernel), List.mem_of_getElem? (i := 708) (by decide +kernel), List.mem_of_getElem? (i := 709) (by decide +kernel)⟩
theorem lw_p23 : lw_okq (⟨"LispMachine$Commands", "map", "(II)I"⟩, 6) := ⟨⟨by decide +kernel, by decide +kernel⟩, List.mem_of_getElem? (i := 322) (by decide +kernel), List.mem_of_getElem? (i := 716) (by decide +kernel), List.mem_of_getElem? (i := 717) (by decide +kernel)⟩
theorem lw_p24 : lw_okq (⟨"LispMachine$Commands", "isFunctionName", "(I)Z"⟩, 6) := ⟨⟨by decide +kernel, by decide +kernel⟩, List.mem_of_getElem? (i := 322) (by decide +kernel), List.mem_of_getElem? (i := 720) (by decide +kernel), List.mem_of_getElem? (i := 721) (by decide +kernel)⟩
theorem lw_p25 : lw_okq (⟨"LispMachine$Commands", "reversed", "(II)I"⟩, 6) := ⟨⟨by decide +kernel, by decide +kernel⟩, List.mem_of_getElem? (i := 322) (by decide +kernel), List.mem_of_getElem? (i := 730) (by decide +kernel), List.mem_of_getElem? (i := 731) (by decide +kernel)⟩
theorem lw_p26 : lw_okq (⟨"LispMachine$Commands", "define", "(III)I"⟩, 6) := ⟨⟨by decide +kernel, by decide +kernel⟩, List.mem_of_getElem? (i := 322) (by decide +kernel), List.mem_of_getElem? (i := 738) (by decide +kernel), List.mem_of_getElem? (i := 739) (by decide +kernel)⟩
theorem lw_p27 : lw_okq (⟨"LispMachine$Commands", "isDefinition", "(III)Z"⟩, 6) := ⟨⟨by decide +kernel, by decide +kernel⟩, List.mem_of_getElem? (i := 322) (by decide +kernel), List.mem_of_getElem? (i := 742) (by decide +kernel), List.mem_of_getElem? (i := 743) (by decide +kernel)⟩
theorem lw_p28 : lw_okq (⟨"LispMachine$Commands", "areParameters", "(I)Z"⟩, 6) := ⟨⟨by decide +kernel, by decide +kernel⟩, List.mem_of_getElem? (i := 322) (by decide +kernel), List.mem_of_getElem? (i := 746) (by decide +kernel), List.mem_of_getElem? (i := 747) (by decide +kernel)⟩
theorem lw_p29 : lw_okq (⟨"LispMachine$Commands", "defineAnew", "(III)I"⟩, 6) := ⟨⟨by decide +kernel, by decide +kernel⟩, List.mem_of_getElem? (i := 322) (by decide +kernel), List.mem_of_getElem? (i := 787) (by decide +kernel), List.mem_of_getElem? (i := 788) (by decide +kernel)⟩
theorem lw_p30 : lw_okq (⟨"LispMachine$Commands", "undo", "()I"⟩, 6) := ⟨⟨by decide +kernel, by decide +kernel⟩, List.mem_of_getElem? (i := 322) (by decide +kernel), List.mem_of_getElem? (i := 791) (by decide +kernel), List.mem_of_getElem? (i := 792) (by decide +kernel)⟩
theorem lw_p31 : lw_okq (⟨"LispMachine$Terms", "gather", "(I)V"⟩, 4) := ⟨⟨by decide +kernel, by decide +kernel⟩, List.mem_of_getElem? (i := 328) (by decide +kernel), List.mem_of_getElem? (i := 803) (by decide +kernel), List.mem_of_getElem? (i := 804) (by decide +kernel)⟩
def lw_privs_2 : List (MethodName × Nat) := [(⟨"LispMachine$Evaluator", "boundValueOf", "(I)I"⟩, 12), (⟨"LispMachine$Evaluator", "argumentOf", "(LLispMachine$Call;I)I"⟩, 12), (⟨"LispMachine$Evaluator", "answer", "(I)V"⟩, 12), (⟨"LispMachine$Evaluator", "openCall", "(II)V"⟩, 12), (⟨"LispMachine$Evaluator", "handOverValue", "(LLispMachine$Call;)V"⟩, 12), (⟨"LispMachine$Evaluator", "applyBase", "(LLispMachine$Call;)V"⟩, 12), (⟨"LispMachine$Commands", "boundVariables", "(I)I"⟩, 6), (⟨"LispMachine$Commands", "map", "(II)I"⟩, 6), (⟨"LispMachine$Commands", "isFunctionName", "(I)Z"⟩, 6), (⟨"LispMachine$Commands", "reversed", "(II)I"⟩, 6), (⟨"LispMachine$Commands", "define", "(III)I"⟩, 6), (⟨"LispMachine$Commands", "isDefinition", "(III)Z"⟩, 6), (⟨"LispMachine$Commands", "areParameters", "(I)Z"⟩, 6), (⟨"LispMachine$Commands", "defineAnew", "(III)I"⟩, 6), (⟨"LispMachine$Commands", "undo", "()I"⟩, 6), (⟨"LispMachine$Terms", "gather", "(I)V"⟩, 4)]
theorem lw_r2 : ∀ q ∈ lw_privs_2, lw_okq q := List.forall_mem_cons.mpr ⟨lw_p16, List.forall_mem_cons.mpr ⟨lw_p17, List.forall_mem_cons.mpr ⟨lw_p18, List.forall_mem_cons.mpr ⟨lw_p19, List.forall_mem_cons.mpr ⟨lw_p20, List.forall_mem_cons.mpr ⟨lw_p21, List.forall_mem_cons.mpr ⟨lw_p22, List.forall_mem_cons.mpr ⟨lw_p23, List.forall_mem_cons.mpr ⟨lw_p24, List.forall_mem_cons.mpr ⟨lw_p25, List.forall_mem_cons.mpr ⟨lw_p26, List.forall_mem_cons.mpr ⟨lw_p27, List.forall_mem_cons.mpr ⟨lw_p28, List.forall_mem_cons.mpr ⟨lw_p29, List.forall_mem_cons.mpr ⟨lw_p30, List.forall_mem_cons.mpr ⟨lw_p31, fun _ h => absurd h List.not_mem_nil⟩⟩⟩⟩⟩⟩⟩⟩⟩⟩⟩⟩⟩⟩⟩⟩
theorem lw_p32 : lw_okq (⟨"LispMachine$Terms", "isCall", "(I)Z"⟩, 4) := ⟨⟨by decide +kernel, by decide +kernel⟩, List.mem_of_getElem? (i := 328) (by decide +kernel), List.mem_of_getElem? (i := 807) (by decide +kernel), List.mem_of_getElem? (i := 808) (by decide +kernel)⟩
theorem lw_p33 : lw_okq (⟨"LispMachine$Commands", "show", "(I)I"⟩, 6) := ⟨⟨by decide +kernel, by decide +kernel⟩, List.mem_of_getElem? (i := 322) (by decide +kernel), List.mem_of_getElem? (i := 815) (by decide +kernel), List.mem_of_getElem? (i := 816) (by decide +kernel)⟩
theorem lw_p34 : lw_okq (⟨"LispMachine$Terms", "listOfParts", "(II)I"⟩, 4) := ⟨⟨by decide +kernel, by decide +kernel⟩, List.mem_of_getElem? (i := 328) (by decide +kernel), List.mem_of_getElem? (i := 823) (by decide +kernel), List.mem_of_getElem? (i := 824) (by decide +kernel)⟩
theorem lw_p35 : lw_okq (⟨"LispMachine$Terms", "isPlainConstant", "(I)Z"⟩, 4) := ⟨⟨by decide +kernel, by decide +kernel⟩, List.mem_of_getElem? (i := 328) (by decide +kernel), List.mem_of_getElem? (i := 829) (by decide +kernel), List.mem_of_getElem? (i := 830) (by decide +kernel)⟩
theorem lw_p36 : lw_okq (⟨"LispMachine$Teller", "beginObject", "(I)I"⟩, 5) := ⟨⟨by decide +kernel, by decide +kernel⟩, List.mem_of_getElem? (i := 233) (by decide +kernel), List.mem_of_getElem? (i := 838) (by decide +kernel), List.mem_of_getElem? (i := 839) (by decide +kernel)⟩
theorem lw_p37 : lw_okq (⟨"LispMachine$Teller", "put", "(C)V"⟩, 5) := ⟨⟨by decide +kernel, by decide +kernel⟩, List.mem_of_getElem? (i := 233) (by decide +kernel), List.mem_of_getElem? (i := 843) (by decide +kernel), List.mem_of_getElem? (i := 844) (by decide +kernel)⟩
theorem lw_p38 : lw_okq (⟨"LispMachine$Teller", "beginRest", "(I)I"⟩, 5) := ⟨⟨by decide +kernel, by decide +kernel⟩, List.mem_of_getElem? (i := 233) (by decide +kernel), List.mem_of_getElem? (i := 849) (by decide +kernel), List.mem_of_getElem? (i := 850) (by decide +kernel)⟩
theorem lw_p39 : lw_okq (⟨"LispMachine$Teller", "putAtom", "(I)V"⟩, 5) := ⟨⟨by decide +kernel, by decide +kernel⟩, List.mem_of_getElem? (i := 233) (by decide +kernel), List.mem_of_getElem? (i := 855) (by decide +kernel), List.mem_of_getElem? (i := 856) (by decide +kernel)⟩
theorem lw_p40 : lw_okq (⟨"LispMachine$Teller", "putNatural", "(J)V"⟩, 5) := ⟨⟨by decide +kernel, by decide +kernel⟩, List.mem_of_getElem? (i := 233) (by decide +kernel), List.mem_of_getElem? (i := 861) (by decide +kernel), List.mem_of_getElem? (i := 862) (by decide +kernel)⟩
theorem lw_p41 : lw_okq (⟨"LispMachine$Teller", "putSymbol", "(J)V"⟩, 5) := ⟨⟨by decide +kernel, by decide +kernel⟩, List.mem_of_getElem? (i := 233) (by decide +kernel), List.mem_of_getElem? (i := 872) (by decide +kernel), List.mem_of_getElem? (i := 873) (by decide +kernel)⟩
theorem lw_p42 : lw_okq (⟨"LispMachine$Teller", "goOn", "()I"⟩, 5) := ⟨⟨by decide +kernel, by decide +kernel⟩, List.mem_of_getElem? (i := 233) (by decide +kernel), List.mem_of_getElem? (i := 880) (by decide +kernel), List.mem_of_getElem? (i := 881) (by decide +kernel)⟩
theorem lw_p43 : lw_okq (⟨"LispMachineModel", "said", "(IIIIIIII)V"⟩, 70) := ⟨⟨by decide +kernel, by decide +kernel⟩, List.mem_of_getElem? (i := 908) (by decide +kernel), List.mem_of_getElem? (i := 916) (by decide +kernel), List.mem_of_getElem? (i := 917) (by decide +kernel)⟩
theorem lw_p44 : lw_okq (⟨"LispMachineModel", "spell", "(I)V"⟩, 70) := ⟨⟨by decide +kernel, by decide +kernel⟩, List.mem_of_getElem? (i := 908) (by decide +kernel), List.mem_of_getElem? (i := 920) (by decide +kernel), List.mem_of_getElem? (i := 921) (by decide +kernel)⟩
theorem lw_p45 : lw_okq (⟨"LispMachineModel", "symbol", "()I"⟩, 70) := ⟨⟨by decide +kernel, by decide +kernel⟩, List.mem_of_getElem? (i := 908) (by decide +kernel), List.mem_of_getElem? (i := 924) (by decide +kernel), List.mem_of_getElem? (i := 925) (by decide +kernel)⟩
theorem lw_p46 : lw_okq (⟨"LispMachineModel", "spelled", "(IIZ)I"⟩, 70) := ⟨⟨by decide +kernel, by decide +kernel⟩, List.mem_of_getElem? (i := 908) (by decide +kernel), List.mem_of_getElem? (i := 928) (by decide +kernel), List.mem_of_getElem? (i := 929) (by decide +kernel)⟩
theorem lw_p47 : lw_okq (⟨"LispMachineModel", "isWord", "(I)Z"⟩, 70) := ⟨⟨by decide +kernel, by decide +kernel⟩, List.mem_of_getElem? (i := 908) (by decide +kernel), List.mem_of_getElem? (i := 932) (by decide +kernel), List.mem_of_getElem? (i := 933) (by decide +kernel)⟩
def lw_privs_3 : List (MethodName × Nat) := [(⟨"LispMachine$Terms", "isCall", "(I)Z"⟩, 4), (⟨"LispMachine$Commands", "show", "(I)I"⟩, 6), (⟨"LispMachine$Terms", "listOfParts", "(II)I"⟩, 4), (⟨"LispMachine$Terms", "isPlainConstant", "(I)Z"⟩, 4), (⟨"LispMachine$Teller", "beginObject", "(I)I"⟩, 5), (⟨"LispMachine$Teller", "put", "(C)V"⟩, 5), (⟨"LispMachine$Teller", "beginRest", "(I)I"⟩, 5), (⟨"LispMachine$Teller", "putAtom", "(I)V"⟩, 5), (⟨"LispMachine$Teller", "putNatural", "(J)V"⟩, 5), (⟨"LispMachine$Teller", "putSymbol", "(J)V"⟩, 5), (⟨"LispMachine$Teller", "goOn", "()I"⟩, 5), (⟨"LispMachineModel", "said", "(IIIIIIII)V"⟩, 70), (⟨"LispMachineModel", "spell", "(I)V"⟩, 70), (⟨"LispMachineModel", "symbol", "()I"⟩, 70), (⟨"LispMachineModel", "spelled", "(IIZ)I"⟩, 70), (⟨"LispMachineModel", "isWord", "(I)Z"⟩, 70)]
theorem lw_r3 : ∀ q ∈ lw_privs_3, lw_okq q := List.forall_mem_cons.mpr ⟨lw_p32, List.forall_mem_cons.mpr ⟨lw_p33, List.forall_mem_cons.mpr ⟨lw_p34, List.forall_mem_cons.mpr ⟨lw_p35, List.forall_mem_cons.mpr ⟨lw_p36, List.forall_mem_cons.mpr ⟨lw_p37, List.forall_mem_cons.mpr ⟨lw_p38, List.forall_mem_cons.mpr ⟨lw_p39, List.forall_mem_cons.mpr ⟨lw_p40, List.forall_mem_cons.mpr ⟨lw_p41, List.forall_mem_cons.mpr ⟨lw_p42, List.forall_mem_cons.mpr ⟨lw_p43, List.forall_mem_cons.mpr ⟨lw_p44, List.forall_mem_cons.mpr ⟨lw_p45, List.forall_mem_cons.mpr ⟨lw_p46, List.forall_mem_cons.mpr ⟨lw_p47, fun _ h => absurd h List.not_mem_nil⟩⟩⟩⟩⟩⟩⟩⟩⟩⟩⟩⟩⟩⟩⟩⟩
theorem lw_p48 : lw_okq (⟨"LispMachineModel", "added", "(III)I"⟩, 70) := ⟨⟨by decide +kernel, by decide +kernel⟩, List.mem_of_getElem? (i := 908) (by decide +kernel), List.mem_of_getElem? (i := 936) (by decide +kernel), List.mem_of_getElem? (i := 937) (by decide +kernel)⟩
theorem lw_p49 : lw_okq (⟨"LispMachineModel", "reads", "()Z"⟩, 70) := ⟨⟨by decide +kernel, by decide +kernel⟩, List.mem_of_getElem? (i := 908) (by decide +kernel), List.mem_of_getElem? (i := 1168) (by decide +kernel), List.mem_of_getElem? (i := 1169) (by decide +kernel)⟩
theorem lw_p50 : lw_okq (⟨"LispMachineModel", "skip", "()V"⟩, 70) := ⟨⟨by decide +kernel, by decide +kernel⟩, List.mem_of_getElem? (i := 908) (by decide +kernel), List.mem_of_getElem? (i := 1172) (by decide +kernel), List.mem_of_getElem? (i := 1173) (by decide +kernel)⟩
theorem lw_p51 : lw_okq (⟨"LispMachineModel", "readWord", "(I)V"⟩, 70) := ⟨⟨by decide +kernel, by decide +kernel⟩, List.mem_of_getElem? (i := 908) (by decide +kernel), List.mem_of_getElem? (i := 1176) (by decide +kernel), List.mem_of_getElem? (i := 1177) (by decide +kernel)⟩
theorem lw_p52 : lw_okq (⟨"LispMachineModel", "mayBegin", "()Z"⟩, 70) := ⟨⟨by decide +kernel, by decide +kernel⟩, List.mem_of_getElem? (i := 908) (by decide +kernel), List.mem_of_getElem? (i := 1180) (by decide +kernel), List.mem_of_getElem? (i := 1181) (by decide +kernel)⟩
theorem lw_p53 : lw_okq (⟨"LispMachineModel", "bad", "(II)V"⟩, 70) := ⟨⟨by decide +kernel, by decide +kernel⟩, List.mem_of_getElem? (i := 908) (by decide +kernel), List.mem_of_getElem? (i := 1184) (by decide +kernel), List.mem_of_getElem? (i := 1185) (by decide +kernel)⟩
theorem lw_p54 : lw_okq (⟨"LispMachineModel", "begin", "(I)V"⟩, 70) := ⟨⟨by decide +kernel, by decide +kernel⟩, List.mem_of_getElem? (i := 908) (by decide +kernel), List.mem_of_getElem? (i := 1188) (by decide +kernel), List.mem_of_getElem? (i := 1189) (by decide +kernel)⟩
theorem lw_p55 : lw_okq (⟨"LispMachineModel", "isInList", "()Z"⟩, 70) := ⟨⟨by decide +kernel, by decide +kernel⟩, List.mem_of_getElem? (i := 908) (by decide +kernel), List.mem_of_getElem? (i := 1192) (by decide +kernel), List.mem_of_getElem? (i := 1193) (by decide +kernel)⟩
theorem lw_p56 : lw_okq (⟨"LispMachineModel", "close", "()V"⟩, 70) := ⟨⟨by decide +kernel, by decide +kernel⟩, List.mem_of_getElem? (i := 908) (by decide +kernel), List.mem_of_getElem? (i := 1196) (by decide +kernel), List.mem_of_getElem? (i := 1197) (by decide +kernel)⟩
theorem lw_p57 : lw_okq (⟨"LispMachineModel", "pair", "(II)I"⟩, 70) := ⟨⟨by decide +kernel, by decide +kernel⟩, List.mem_of_getElem? (i := 908) (by decide +kernel), List.mem_of_getElem? (i := 1200) (by decide +kernel), List.mem_of_getElem? (i := 1201) (by decide +kernel)⟩
theorem lw_p58 : lw_okq (⟨"LispMachineModel", "deliver", "(I)V"⟩, 70) := ⟨⟨by decide +kernel, by decide +kernel⟩, List.mem_of_getElem? (i := 908) (by decide +kernel), List.mem_of_getElem? (i := 1208) (by decide +kernel), List.mem_of_getElem? (i := 1209) (by decide +kernel)⟩
theorem lw_p59 : lw_okq (⟨"LispMachineModel", "list2", "(II)I"⟩, 70) := ⟨⟨by decide +kernel, by decide +kernel⟩, List.mem_of_getElem? (i := 908) (by decide +kernel), List.mem_of_getElem? (i := 1212) (by decide +kernel), List.mem_of_getElem? (i := 1213) (by decide +kernel)⟩
theorem lw_p60 : lw_okq (⟨"LispMachineModel", "list1", "(I)I"⟩, 70) := ⟨⟨by decide +kernel, by decide +kernel⟩, List.mem_of_getElem? (i := 908) (by decide +kernel), List.mem_of_getElem? (i := 1216) (by decide +kernel), List.mem_of_getElem? (i := 1217) (by decide +kernel)⟩
theorem lw_p61 : lw_okq (⟨"LispMachineModel", "atom", "(II)I"⟩, 70) := ⟨⟨by decide +kernel, by decide +kernel⟩, List.mem_of_getElem? (i := 908) (by decide +kernel), List.mem_of_getElem? (i := 1226) (by decide +kernel), List.mem_of_getElem? (i := 1227) (by decide +kernel)⟩
theorem lw_p62 : lw_okq (⟨"LispMachineModel", "natural", "(J)I"⟩, 70) := ⟨⟨by decide +kernel, by decide +kernel⟩, List.mem_of_getElem? (i := 908) (by decide +kernel), List.mem_of_getElem? (i := 1233) (by decide +kernel), List.mem_of_getElem? (i := 1234) (by decide +kernel)⟩
theorem lw_p63 : lw_okq (⟨"LispMachineModel", "command", "(I)I"⟩, 70) := ⟨⟨by decide +kernel, by decide +kernel⟩, List.mem_of_getElem? (i := 908) (by decide +kernel), List.mem_of_getElem? (i := 1237) (by decide +kernel), List.mem_of_getElem? (i := 1238) (by decide +kernel)⟩
def lw_privs_4 : List (MethodName × Nat) := [(⟨"LispMachineModel", "added", "(III)I"⟩, 70), (⟨"LispMachineModel", "reads", "()Z"⟩, 70), (⟨"LispMachineModel", "skip", "()V"⟩, 70), (⟨"LispMachineModel", "readWord", "(I)V"⟩, 70), (⟨"LispMachineModel", "mayBegin", "()Z"⟩, 70), (⟨"LispMachineModel", "bad", "(II)V"⟩, 70), (⟨"LispMachineModel", "begin", "(I)V"⟩, 70), (⟨"LispMachineModel", "isInList", "()Z"⟩, 70), (⟨"LispMachineModel", "close", "()V"⟩, 70), (⟨"LispMachineModel", "pair", "(II)I"⟩, 70), (⟨"LispMachineModel", "deliver", "(I)V"⟩, 70), (⟨"LispMachineModel", "list2", "(II)I"⟩, 70), (⟨"LispMachineModel", "list1", "(I)I"⟩, 70), (⟨"LispMachineModel", "atom", "(II)I"⟩, 70), (⟨"LispMachineModel", "natural", "(J)I"⟩, 70), (⟨"LispMachineModel", "command", "(I)I"⟩, 70)]
theorem lw_r4 : ∀ q ∈ lw_privs_4, lw_okq q := List.forall_mem_cons.mpr ⟨lw_p48, List.forall_mem_cons.mpr ⟨lw_p49, List.forall_mem_cons.mpr ⟨lw_p50, List.forall_mem_cons.mpr ⟨lw_p51, List.forall_mem_cons.mpr ⟨lw_p52, List.forall_mem_cons.mpr ⟨lw_p53, List.forall_mem_cons.mpr ⟨lw_p54, List.forall_mem_cons.mpr ⟨lw_p55, List.forall_mem_cons.mpr ⟨lw_p56, List.forall_mem_cons.mpr ⟨lw_p57, List.forall_mem_cons.mpr ⟨lw_p58, List.forall_mem_cons.mpr ⟨lw_p59, List.forall_mem_cons.mpr ⟨lw_p60, List.forall_mem_cons.mpr ⟨lw_p61, List.forall_mem_cons.mpr ⟨lw_p62, List.forall_mem_cons.mpr ⟨lw_p63, fun _ h => absurd h List.not_mem_nil⟩⟩⟩⟩⟩⟩⟩⟩⟩⟩⟩⟩⟩⟩⟩⟩
theorem lw_p64 : lw_okq (⟨"LispMachineModel", "isPair", "(I)Z"⟩, 70) := ⟨⟨by decide +kernel, by decide +kernel⟩, List.mem_of_getElem? (i := 908) (by decide +kernel), List.mem_of_getElem? (i := 1241) (by decide +kernel), List.mem_of_getElem? (i := 1242) (by decide +kernel)⟩
theorem lw_p65 : lw_okq (⟨"LispMachineModel", "eval", "(I)I"⟩, 70) := ⟨⟨by decide +kernel, by decide +kernel⟩, List.mem_of_getElem? (i := 908) (by decide +kernel), List.mem_of_getElem? (i := 1245) (by decide +kernel), List.mem_of_getElem? (i := 1246) (by decide +kernel)⟩
theorem lw_p66 : lw_okq (⟨"LispMachineModel", "lengthOf", "(I)I"⟩, 70) := ⟨⟨by decide +kernel, by decide +kernel⟩, List.mem_of_getElem? (i := 908) (by decide +kernel), List.mem_of_getElem? (i := 1249) (by decide +kernel), List.mem_of_getElem? (i := 1250) (by decide +kernel)⟩
theorem lw_p67 : lw_okq (⟨"LispMachineModel", "nth", "(II)I"⟩, 70) := ⟨⟨by decide +kernel, by decide +kernel⟩, List.mem_of_getElem? (i := 908) (by decide +kernel), List.mem_of_getElem? (i := 1253) (by decide +kernel), List.mem_of_getElem? (i := 1254) (by decide +kernel)⟩
theorem lw_p68 : lw_okq (⟨"LispMachineModel", "termOf", "(I)I"⟩, 70) := ⟨⟨by decide +kernel, by decide +kernel⟩, List.mem_of_getElem? (i := 908) (by decide +kernel), List.mem_of_getElem? (i := 1257) (by decide +kernel), List.mem_of_getElem? (i := 1258) (by decide +kernel)⟩
theorem lw_p69 : lw_okq (⟨"LispMachineModel", "beginTerm", "(I)Z"⟩, 70) := ⟨⟨by decide +kernel, by decide +kernel⟩, List.mem_of_getElem? (i := 908) (by decide +kernel), List.mem_of_getElem? (i := 1261) (by decide +kernel), List.mem_of_getElem? (i := 1262) (by decide +kernel)⟩
theorem lw_p70 : lw_okq (⟨"LispMachineModel", "build", "(I)V"⟩, 70) := ⟨⟨by decide +kernel, by decide +kernel⟩, List.mem_of_getElem? (i := 908) (by decide +kernel), List.mem_of_getElem? (i := 1265) (by decide +kernel), List.mem_of_getElem? (i := 1266) (by decide +kernel)⟩
theorem lw_p71 : lw_okq (⟨"LispMachineModel", "isQuoted", "(I)Z"⟩, 70) := ⟨⟨by decide +kernel, by decide +kernel⟩, List.mem_of_getElem? (i := 908) (by decide +kernel), List.mem_of_getElem? (i := 1269) (by decide +kernel), List.mem_of_getElem? (i := 1270) (by decide +kernel)⟩
theorem lw_p72 : lw_okq (⟨"LispMachineModel", "constantOf", "(I)I"⟩, 70) := ⟨⟨by decide +kernel, by decide +kernel⟩, List.mem_of_getElem? (i := 908) (by decide +kernel), List.mem_of_getElem? (i := 1273) (by decide +kernel), List.mem_of_getElem? (i := 1274) (by decide +kernel)⟩
theorem lw_p73 : lw_okq (⟨"LispMachineModel", "isNatural", "(I)Z"⟩, 70) := ⟨⟨by decide +kernel, by decide +kernel⟩, List.mem_of_getElem? (i := 908) (by decide +kernel), List.mem_of_getElem? (i := 1277) (by decide +kernel), List.mem_of_getElem? (i := 1278) (by decide +kernel)⟩
theorem lw_p74 : lw_okq (⟨"LispMachineModel", "isSymbol", "(I)Z"⟩, 70) := ⟨⟨by decide +kernel, by decide +kernel⟩, List.mem_of_getElem? (i := 908) (by decide +kernel), List.mem_of_getElem? (i := 1281) (by decide +kernel), List.mem_of_getElem? (i := 1282) (by decide +kernel)⟩
theorem lw_p75 : lw_okq (⟨"LispMachineModel", "functionOf", "(I)I"⟩, 70) := ⟨⟨by decide +kernel, by decide +kernel⟩, List.mem_of_getElem? (i := 908) (by decide +kernel), List.mem_of_getElem? (i := 1285) (by decide +kernel), List.mem_of_getElem? (i := 1286) (by decide +kernel)⟩
theorem lw_p76 : lw_okq (⟨"LispMachineModel", "manyOf", "(I)I"⟩, 70) := ⟨⟨by decide +kernel, by decide +kernel⟩, List.mem_of_getElem? (i := 908) (by decide +kernel), List.mem_of_getElem? (i := 1289) (by decide +kernel), List.mem_of_getElem? (i := 1290) (by decide +kernel)⟩
theorem lw_p77 : lw_okq (⟨"LispMachineModel", "openCall", "(I)V"⟩, 70) := ⟨⟨by decide +kernel, by decide +kernel⟩, List.mem_of_getElem? (i := 908) (by decide +kernel), List.mem_of_getElem? (i := 1293) (by decide +kernel), List.mem_of_getElem? (i := 1294) (by decide +kernel)⟩
theorem lw_p78 : lw_okq (⟨"LispMachineModel", "callFrom", "(II)I"⟩, 70) := ⟨⟨by decide +kernel, by decide +kernel⟩, List.mem_of_getElem? (i := 908) (by decide +kernel), List.mem_of_getElem? (i := 1297) (by decide +kernel), List.mem_of_getElem? (i := 1298) (by decide +kernel)⟩
theorem lw_p79 : lw_okq (⟨"LispMachineModel", "sizeOf", "(I)I"⟩, 70) := ⟨⟨by decide +kernel, by decide +kernel⟩, List.mem_of_getElem? (i := 908) (by decide +kernel), List.mem_of_getElem? (i := 1301) (by decide +kernel), List.mem_of_getElem? (i := 1302) (by decide +kernel)⟩
def lw_privs_5 : List (MethodName × Nat) := [(⟨"LispMachineModel", "isPair", "(I)Z"⟩, 70), (⟨"LispMachineModel", "eval", "(I)I"⟩, 70), (⟨"LispMachineModel", "lengthOf", "(I)I"⟩, 70), (⟨"LispMachineModel", "nth", "(II)I"⟩, 70), (⟨"LispMachineModel", "termOf", "(I)I"⟩, 70), (⟨"LispMachineModel", "beginTerm", "(I)Z"⟩, 70), (⟨"LispMachineModel", "build", "(I)V"⟩, 70), (⟨"LispMachineModel", "isQuoted", "(I)Z"⟩, 70), (⟨"LispMachineModel", "constantOf", "(I)I"⟩, 70), (⟨"LispMachineModel", "isNatural", "(I)Z"⟩, 70), (⟨"LispMachineModel", "isSymbol", "(I)Z"⟩, 70), (⟨"LispMachineModel", "functionOf", "(I)I"⟩, 70), (⟨"LispMachineModel", "manyOf", "(I)I"⟩, 70), (⟨"LispMachineModel", "openCall", "(I)V"⟩, 70), (⟨"LispMachineModel", "callFrom", "(II)I"⟩, 70), (⟨"LispMachineModel", "sizeOf", "(I)I"⟩, 70)]
theorem lw_r5 : ∀ q ∈ lw_privs_5, lw_okq q := List.forall_mem_cons.mpr ⟨lw_p64, List.forall_mem_cons.mpr ⟨lw_p65, List.forall_mem_cons.mpr ⟨lw_p66, List.forall_mem_cons.mpr ⟨lw_p67, List.forall_mem_cons.mpr ⟨lw_p68, List.forall_mem_cons.mpr ⟨lw_p69, List.forall_mem_cons.mpr ⟨lw_p70, List.forall_mem_cons.mpr ⟨lw_p71, List.forall_mem_cons.mpr ⟨lw_p72, List.forall_mem_cons.mpr ⟨lw_p73, List.forall_mem_cons.mpr ⟨lw_p74, List.forall_mem_cons.mpr ⟨lw_p75, List.forall_mem_cons.mpr ⟨lw_p76, List.forall_mem_cons.mpr ⟨lw_p77, List.forall_mem_cons.mpr ⟨lw_p78, List.forall_mem_cons.mpr ⟨lw_p79, fun _ h => absurd h List.not_mem_nil⟩⟩⟩⟩⟩⟩⟩⟩⟩⟩⟩⟩⟩⟩⟩⟩
theorem lw_p80 : lw_okq (⟨"LispMachineModel", "isCall", "(I)Z"⟩, 70) := ⟨⟨by decide +kernel, by decide +kernel⟩, List.mem_of_getElem? (i := 908) (by decide +kernel), List.mem_of_getElem? (i := 1305) (by decide +kernel), List.mem_of_getElem? (i := 1306) (by decide +kernel)⟩
theorem lw_p81 : lw_okq (⟨"LispMachineModel", "hasOnly", "(II)Z"⟩, 70) := ⟨⟨by decide +kernel, by decide +kernel⟩, List.mem_of_getElem? (i := 908) (by decide +kernel), List.mem_of_getElem? (i := 1309) (by decide +kernel), List.mem_of_getElem? (i := 1310) (by decide +kernel)⟩
theorem lw_p82 : lw_okq (⟨"LispMachineModel", "variablesOf", "(I)V"⟩, 70) := ⟨⟨by decide +kernel, by decide +kernel⟩, List.mem_of_getElem? (i := 908) (by decide +kernel), List.mem_of_getElem? (i := 1313) (by decide +kernel), List.mem_of_getElem? (i := 1314) (by decide +kernel)⟩
theorem lw_p83 : lw_okq (⟨"LispMachineModel", "walkTo", "(I)V"⟩, 70) := ⟨⟨by decide +kernel, by decide +kernel⟩, List.mem_of_getElem? (i := 908) (by decide +kernel), List.mem_of_getElem? (i := 1317) (by decide +kernel), List.mem_of_getElem? (i := 1318) (by decide +kernel)⟩
theorem lw_p84 : lw_okq (⟨"LispMachineModel", "walkOn", "()I"⟩, 70) := ⟨⟨by decide +kernel, by decide +kernel⟩, List.mem_of_getElem? (i := 908) (by decide +kernel), List.mem_of_getElem? (i := 1321) (by decide +kernel), List.mem_of_getElem? (i := 1322) (by decide +kernel)⟩
theorem lw_p85 : lw_okq (⟨"LispMachineModel", "isVariable", "(I)Z"⟩, 70) := ⟨⟨by decide +kernel, by decide +kernel⟩, List.mem_of_getElem? (i := 908) (by decide +kernel), List.mem_of_getElem? (i := 1325) (by decide +kernel), List.mem_of_getElem? (i := 1326) (by decide +kernel)⟩
theorem lw_p86 : lw_okq (⟨"LispMachineModel", "isIn", "(II)Z"⟩, 70) := ⟨⟨by decide +kernel, by decide +kernel⟩, List.mem_of_getElem? (i := 908) (by decide +kernel), List.mem_of_getElem? (i := 1329) (by decide +kernel), List.mem_of_getElem? (i := 1330) (by decide +kernel)⟩
theorem lw_p87 : lw_okq (⟨"LispMachineModel", "toldValue", "(I)I"⟩, 70) := ⟨⟨by decide +kernel, by decide +kernel⟩, List.mem_of_getElem? (i := 908) (by decide +kernel), List.mem_of_getElem? (i := 1333) (by decide +kernel), List.mem_of_getElem? (i := 1334) (by decide +kernel)⟩
theorem lw_p88 : lw_okq (⟨"LispMachineModel", "evaluated", "(IZ)I"⟩, 70) := ⟨⟨by decide +kernel, by decide +kernel⟩, List.mem_of_getElem? (i := 908) (by decide +kernel), List.mem_of_getElem? (i := 1337) (by decide +kernel), List.mem_of_getElem? (i := 1338) (by decide +kernel)⟩
theorem lw_p89 : lw_okq (⟨"LispMachineModel", "beginEval", "(IIIZ)V"⟩, 70) := ⟨⟨by decide +kernel, by decide +kernel⟩, List.mem_of_getElem? (i := 908) (by decide +kernel), List.mem_of_getElem? (i := 1341) (by decide +kernel), List.mem_of_getElem? (i := 1342) (by decide +kernel)⟩
theorem lw_p90 : lw_okq (⟨"LispMachineModel", "isConstant", "(I)Z"⟩, 70) := ⟨⟨by decide +kernel, by decide +kernel⟩, List.mem_of_getElem? (i := 908) (by decide +kernel), List.mem_of_getElem? (i := 1345) (by decide +kernel), List.mem_of_getElem? (i := 1346) (by decide +kernel)⟩
theorem lw_p91 : lw_okq (⟨"LispMachineModel", "valueOf", "(I)I"⟩, 70) := ⟨⟨by decide +kernel, by decide +kernel⟩, List.mem_of_getElem? (i := 908) (by decide +kernel), List.mem_of_getElem? (i := 1349) (by decide +kernel), List.mem_of_getElem? (i := 1350) (by decide +kernel)⟩
theorem lw_p92 : lw_okq (⟨"LispMachineModel", "takeValue", "(Z)V"⟩, 70) := ⟨⟨by decide +kernel, by decide +kernel⟩, List.mem_of_getElem? (i := 908) (by decide +kernel), List.mem_of_getElem? (i := 1353) (by decide +kernel), List.mem_of_getElem? (i := 1354) (by decide +kernel)⟩
theorem lw_p93 : lw_okq (⟨"LispMachineModel", "term", "(II)I"⟩, 70) := ⟨⟨by decide +kernel, by decide +kernel⟩, List.mem_of_getElem? (i := 908) (by decide +kernel), List.mem_of_getElem? (i := 1357) (by decide +kernel), List.mem_of_getElem? (i := 1358) (by decide +kernel)⟩
theorem lw_p94 : lw_okq (⟨"LispMachineModel", "goOn", "(Z)V"⟩, 70) := ⟨⟨by decide +kernel, by decide +kernel⟩, List.mem_of_getElem? (i := 908) (by decide +kernel), List.mem_of_getElem? (i := 1361) (by decide +kernel), List.mem_of_getElem? (i := 1362) (by decide +kernel)⟩
theorem lw_p95 : lw_okq (⟨"LispMachineModel", "basic", "(II)I"⟩, 70) := ⟨⟨by decide +kernel, by decide +kernel⟩, List.mem_of_getElem? (i := 908) (by decide +kernel), List.mem_of_getElem? (i := 1365) (by decide +kernel), List.mem_of_getElem? (i := 1366) (by decide +kernel)⟩
def lw_privs_6 : List (MethodName × Nat) := [(⟨"LispMachineModel", "isCall", "(I)Z"⟩, 70), (⟨"LispMachineModel", "hasOnly", "(II)Z"⟩, 70), (⟨"LispMachineModel", "variablesOf", "(I)V"⟩, 70), (⟨"LispMachineModel", "walkTo", "(I)V"⟩, 70), (⟨"LispMachineModel", "walkOn", "()I"⟩, 70), (⟨"LispMachineModel", "isVariable", "(I)Z"⟩, 70), (⟨"LispMachineModel", "isIn", "(II)Z"⟩, 70), (⟨"LispMachineModel", "toldValue", "(I)I"⟩, 70), (⟨"LispMachineModel", "evaluated", "(IZ)I"⟩, 70), (⟨"LispMachineModel", "beginEval", "(IIIZ)V"⟩, 70), (⟨"LispMachineModel", "isConstant", "(I)Z"⟩, 70), (⟨"LispMachineModel", "valueOf", "(I)I"⟩, 70), (⟨"LispMachineModel", "takeValue", "(Z)V"⟩, 70), (⟨"LispMachineModel", "term", "(II)I"⟩, 70), (⟨"LispMachineModel", "goOn", "(Z)V"⟩, 70), (⟨"LispMachineModel", "basic", "(II)I"⟩, 70)]
theorem lw_r6 : ∀ q ∈ lw_privs_6, lw_okq q := List.forall_mem_cons.mpr ⟨lw_p80, List.forall_mem_cons.mpr ⟨lw_p81, List.forall_mem_cons.mpr ⟨lw_p82, List.forall_mem_cons.mpr ⟨lw_p83, List.forall_mem_cons.mpr ⟨lw_p84, List.forall_mem_cons.mpr ⟨lw_p85, List.forall_mem_cons.mpr ⟨lw_p86, List.forall_mem_cons.mpr ⟨lw_p87, List.forall_mem_cons.mpr ⟨lw_p88, List.forall_mem_cons.mpr ⟨lw_p89, List.forall_mem_cons.mpr ⟨lw_p90, List.forall_mem_cons.mpr ⟨lw_p91, List.forall_mem_cons.mpr ⟨lw_p92, List.forall_mem_cons.mpr ⟨lw_p93, List.forall_mem_cons.mpr ⟨lw_p94, List.forall_mem_cons.mpr ⟨lw_p95, fun _ h => absurd h List.not_mem_nil⟩⟩⟩⟩⟩⟩⟩⟩⟩⟩⟩⟩⟩⟩⟩⟩
theorem lw_p96 : lw_okq (⟨"LispMachineModel", "numberOf", "(I)J"⟩, 70) := ⟨⟨by decide +kernel, by decide +kernel⟩, List.mem_of_getElem? (i := 908) (by decide +kernel), List.mem_of_getElem? (i := 1372) (by decide +kernel), List.mem_of_getElem? (i := 1373) (by decide +kernel)⟩
theorem lw_p97 : lw_okq (⟨"LispMachineModel", "tellOut", "(I)V"⟩, 70) := ⟨⟨by decide +kernel, by decide +kernel⟩, List.mem_of_getElem? (i := 908) (by decide +kernel), List.mem_of_getElem? (i := 1376) (by decide +kernel), List.mem_of_getElem? (i := 1377) (by decide +kernel)⟩
theorem lw_p98 : lw_okq (⟨"LispMachineModel", "tellObject", "(I)V"⟩, 70) := ⟨⟨by decide +kernel, by decide +kernel⟩, List.mem_of_getElem? (i := 908) (by decide +kernel), List.mem_of_getElem? (i := 1380) (by decide +kernel), List.mem_of_getElem? (i := 1381) (by decide +kernel)⟩
theorem lw_p99 : lw_okq (⟨"LispMachineModel", "later", "(I)V"⟩, 70) := ⟨⟨by decide +kernel, by decide +kernel⟩, List.mem_of_getElem? (i := 908) (by decide +kernel), List.mem_of_getElem? (i := 1384) (by decide +kernel), List.mem_of_getElem? (i := 1385) (by decide +kernel)⟩
theorem lw_p100 : lw_okq (⟨"LispMachineModel", "isFull", "()Z"⟩, 70) := ⟨⟨by decide +kernel, by decide +kernel⟩, List.mem_of_getElem? (i := 908) (by decide +kernel), List.mem_of_getElem? (i := 1388) (by decide +kernel), List.mem_of_getElem? (i := 1389) (by decide +kernel)⟩
theorem lw_p101 : lw_okq (⟨"LispMachineModel", "tellAtom", "(I)V"⟩, 70) := ⟨⟨by decide +kernel, by decide +kernel⟩, List.mem_of_getElem? (i := 908) (by decide +kernel), List.mem_of_getElem? (i := 1392) (by decide +kernel), List.mem_of_getElem? (i := 1393) (by decide +kernel)⟩
theorem lw_p102 : lw_okq (⟨"LispMachineModel", "tellLetter", "(I)V"⟩, 70) := ⟨⟨by decide +kernel, by decide +kernel⟩, List.mem_of_getElem? (i := 908) (by decide +kernel), List.mem_of_getElem? (i := 1396) (by decide +kernel), List.mem_of_getElem? (i := 1397) (by decide +kernel)⟩
theorem lw_p103 : lw_okq (⟨"LispMachineModel", "with", "(I)I"⟩, 70) := ⟨⟨by decide +kernel, by decide +kernel⟩, List.mem_of_getElem? (i := 908) (by decide +kernel), List.mem_of_getElem? (i := 1400) (by decide +kernel), List.mem_of_getElem? (i := 1401) (by decide +kernel)⟩
theorem lw_p104 : lw_okq (⟨"LispMachineModel", "map", "(I)I"⟩, 70) := ⟨⟨by decide +kernel, by decide +kernel⟩, List.mem_of_getElem? (i := 908) (by decide +kernel), List.mem_of_getElem? (i := 1404) (by decide +kernel), List.mem_of_getElem? (i := 1405) (by decide +kernel)⟩
theorem lw_p105 : lw_okq (⟨"LispMachineModel", "isNewName", "(I)Z"⟩, 70) := ⟨⟨by decide +kernel, by decide +kernel⟩, List.mem_of_getElem? (i := 908) (by decide +kernel), List.mem_of_getElem? (i := 1408) (by decide +kernel), List.mem_of_getElem? (i := 1409) (by decide +kernel)⟩
theorem lw_p106 : lw_okq (⟨"LispMachineModel", "definition", "(I)I"⟩, 70) := ⟨⟨by decide +kernel, by decide +kernel⟩, List.mem_of_getElem? (i := 908) (by decide +kernel), List.mem_of_getElem? (i := 1415) (by decide +kernel), List.mem_of_getElem? (i := 1416) (by decide +kernel)⟩
theorem lw_p107 : lw_okq (⟨"LispMachineModel", "defun", "(IZ)I"⟩, 70) := ⟨⟨by decide +kernel, by decide +kernel⟩, List.mem_of_getElem? (i := 908) (by decide +kernel), List.mem_of_getElem? (i := 1419) (by decide +kernel), List.mem_of_getElem? (i := 1420) (by decide +kernel)⟩
theorem lw_p108 : lw_okq (⟨"LispMachineModel", "areVariables", "(II)Z"⟩, 70) := ⟨⟨by decide +kernel, by decide +kernel⟩, List.mem_of_getElem? (i := 908) (by decide +kernel), List.mem_of_getElem? (i := 1423) (by decide +kernel), List.mem_of_getElem? (i := 1424) (by decide +kernel)⟩
theorem lw_p109 : lw_okq (⟨"LispMachineModel", "undo", "(I)I"⟩, 70) := ⟨⟨by decide +kernel, by decide +kernel⟩, List.mem_of_getElem? (i := 908) (by decide +kernel), List.mem_of_getElem? (i := 1427) (by decide +kernel), List.mem_of_getElem? (i := 1428) (by decide +kernel)⟩
theorem lw_p110 : lw_okq (⟨"LispMachineModel", "hasCall", "(II)Z"⟩, 70) := ⟨⟨by decide +kernel, by decide +kernel⟩, List.mem_of_getElem? (i := 908) (by decide +kernel), List.mem_of_getElem? (i := 1431) (by decide +kernel), List.mem_of_getElem? (i := 1432) (by decide +kernel)⟩
theorem lw_p111 : lw_okq (⟨"LispMachineModel", "isCallOf", "(II)Z"⟩, 70) := ⟨⟨by decide +kernel, by decide +kernel⟩, List.mem_of_getElem? (i := 908) (by decide +kernel), List.mem_of_getElem? (i := 1435) (by decide +kernel), List.mem_of_getElem? (i := 1436) (by decide +kernel)⟩
def lw_privs_7 : List (MethodName × Nat) := [(⟨"LispMachineModel", "numberOf", "(I)J"⟩, 70), (⟨"LispMachineModel", "tellOut", "(I)V"⟩, 70), (⟨"LispMachineModel", "tellObject", "(I)V"⟩, 70), (⟨"LispMachineModel", "later", "(I)V"⟩, 70), (⟨"LispMachineModel", "isFull", "()Z"⟩, 70), (⟨"LispMachineModel", "tellAtom", "(I)V"⟩, 70), (⟨"LispMachineModel", "tellLetter", "(I)V"⟩, 70), (⟨"LispMachineModel", "with", "(I)I"⟩, 70), (⟨"LispMachineModel", "map", "(I)I"⟩, 70), (⟨"LispMachineModel", "isNewName", "(I)Z"⟩, 70), (⟨"LispMachineModel", "definition", "(I)I"⟩, 70), (⟨"LispMachineModel", "defun", "(IZ)I"⟩, 70), (⟨"LispMachineModel", "areVariables", "(II)Z"⟩, 70), (⟨"LispMachineModel", "undo", "(I)I"⟩, 70), (⟨"LispMachineModel", "hasCall", "(II)Z"⟩, 70), (⟨"LispMachineModel", "isCallOf", "(II)Z"⟩, 70)]
theorem lw_r7 : ∀ q ∈ lw_privs_7, lw_okq q := List.forall_mem_cons.mpr ⟨lw_p96, List.forall_mem_cons.mpr ⟨lw_p97, List.forall_mem_cons.mpr ⟨lw_p98, List.forall_mem_cons.mpr ⟨lw_p99, List.forall_mem_cons.mpr ⟨lw_p100, List.forall_mem_cons.mpr ⟨lw_p101, List.forall_mem_cons.mpr ⟨lw_p102, List.forall_mem_cons.mpr ⟨lw_p103, List.forall_mem_cons.mpr ⟨lw_p104, List.forall_mem_cons.mpr ⟨lw_p105, List.forall_mem_cons.mpr ⟨lw_p106, List.forall_mem_cons.mpr ⟨lw_p107, List.forall_mem_cons.mpr ⟨lw_p108, List.forall_mem_cons.mpr ⟨lw_p109, List.forall_mem_cons.mpr ⟨lw_p110, List.forall_mem_cons.mpr ⟨lw_p111, fun _ h => absurd h List.not_mem_nil⟩⟩⟩⟩⟩⟩⟩⟩⟩⟩⟩⟩⟩⟩⟩⟩
theorem lw_p112 : lw_okq (⟨"LispMachineModel", "show", "(I)I"⟩, 70) := ⟨⟨by decide +kernel, by decide +kernel⟩, List.mem_of_getElem? (i := 908) (by decide +kernel), List.mem_of_getElem? (i := 1439) (by decide +kernel), List.mem_of_getElem? (i := 1440) (by decide +kernel)⟩
theorem lw_p113 : lw_okq (⟨"LispMachineModel", "list4", "(IIII)I"⟩, 70) := ⟨⟨by decide +kernel, by decide +kernel⟩, List.mem_of_getElem? (i := 908) (by decide +kernel), List.mem_of_getElem? (i := 1443) (by decide +kernel), List.mem_of_getElem? (i := 1444) (by decide +kernel)⟩
theorem lw_p114 : lw_okq (⟨"LispMachineModel", "list3", "(III)I"⟩, 70) := ⟨⟨by decide +kernel, by decide +kernel⟩, List.mem_of_getElem? (i := 908) (by decide +kernel), List.mem_of_getElem? (i := 1447) (by decide +kernel), List.mem_of_getElem? (i := 1448) (by decide +kernel)⟩
theorem lw_p115 : lw_okq (⟨"LispMachineModel", "forget", "(I)V"⟩, 70) := ⟨⟨by decide +kernel, by decide +kernel⟩, List.mem_of_getElem? (i := 908) (by decide +kernel), List.mem_of_getElem? (i := 1451) (by decide +kernel), List.mem_of_getElem? (i := 1452) (by decide +kernel)⟩
theorem lw_p116 : lw_okq (⟨"LispMachineModel", "slotOf", "(I)I"⟩, 70) := ⟨⟨by decide +kernel, by decide +kernel⟩, List.mem_of_getElem? (i := 908) (by decide +kernel), List.mem_of_getElem? (i := 1455) (by decide +kernel), List.mem_of_getElem? (i := 1456) (by decide +kernel)⟩
def lw_privs_8 : List (MethodName × Nat) := [(⟨"LispMachineModel", "show", "(I)I"⟩, 70), (⟨"LispMachineModel", "list4", "(IIII)I"⟩, 70), (⟨"LispMachineModel", "list3", "(III)I"⟩, 70), (⟨"LispMachineModel", "forget", "(I)V"⟩, 70), (⟨"LispMachineModel", "slotOf", "(I)I"⟩, 70)]
theorem lw_r8 : ∀ q ∈ lw_privs_8, lw_okq q := List.forall_mem_cons.mpr ⟨lw_p112, List.forall_mem_cons.mpr ⟨lw_p113, List.forall_mem_cons.mpr ⟨lw_p114, List.forall_mem_cons.mpr ⟨lw_p115, List.forall_mem_cons.mpr ⟨lw_p116, fun _ h => absurd h List.not_mem_nil⟩⟩⟩⟩⟩
def lw_privs : List (MethodName × Nat) := lw_privs_1 ++ (lw_privs_2 ++ (lw_privs_3 ++ (lw_privs_4 ++ (lw_privs_5 ++ (lw_privs_6 ++ (lw_privs_7 ++ (lw_privs_8)))))))
def lw_tbl : List Cond := k2_sels lw_privs ++ tables_1
theorem lw_privs_ok : ∀ q ∈ lw_privs, lw_okq q := by
  show ∀ q ∈ lw_privs_1 ++ (lw_privs_2 ++ (lw_privs_3 ++ (lw_privs_4 ++ (lw_privs_5 ++ (lw_privs_6 ++ (lw_privs_7 ++ (lw_privs_8))))))), lw_okq q
  exact List.forall_mem_append.mpr ⟨lw_r1, List.forall_mem_append.mpr ⟨lw_r2, List.forall_mem_append.mpr ⟨lw_r3, List.forall_mem_append.mpr ⟨lw_r4, List.forall_mem_append.mpr ⟨lw_r5, List.forall_mem_append.mpr ⟨lw_r6, List.forall_mem_append.mpr ⟨lw_r7, lw_r8⟩⟩⟩⟩⟩⟩⟩
end
section
def RX0 : String := "LispMachine$Call"
def TX0 : u_T := fun k => match k with
  | 0 => ("LispMachine$Call", "values", "[I", true)
  | 1 => ("LispMachine$Call", "valueCount", "I", false)
  | 2 => ("LispMachine$Call", "name", "I", false)
  | 3 => ("LispMachine$Call", "definition", "LLispMachine$Definition;", false)
  | 4 => ("LispMachine$Call", "termsLeft", "I", false)
  | 5 => ("LispMachine$Call", "scope", "LLispMachine$Call;", false)
  | _ => ("LispMachine$Call", "entered", "Z", false)
def tyX0 : Nat → FieldType := fun k => match k with
  | 0 => .array .int
  | 1 => .int
  | 2 => .int
  | 3 => .object "LispMachine$Definition"
  | 4 => .int
  | 5 => .object "LispMachine$Call"
  | _ => .boolean
abbrev wsX00 : List Cond := u_ws RX0 TX0 7
theorem nmX0 : ∀ a, a < 7 → ∀ b, b < 7 → a ≠ b → (TX0 a).2.1 ≠ (TX0 b).2.1 := by decide +kernel
theorem tyX0_ok : ∀ k, k < 7 → parseFieldDescriptor (TX0 k).2.2.1 = some (tyX0 k) := by decide +kernel
abbrev cX0_init : ByteArray := prog_2_method_1_code
def yX0_init : MethodName := ⟨RX0, "<init>", "()V"⟩
abbrev cX0_start : ByteArray := prog_2_method_2_code
def yX0_start : MethodName := ⟨RX0, "start", "(ILLispMachine$Definition;ILLispMachine$Call;)V"⟩
abbrev cX0_add : ByteArray := prog_2_method_3_code
def yX0_add : MethodName := ⟨RX0, "add", "(I)V"⟩
def RX1 : String := "LispMachine$Commands"
def TX1 : u_T := fun k => match k with
  | 0 => ("LispMachine$Commands", "store", "LLispMachine$Store;", true)
  | 1 => ("LispMachine$Commands", "functions", "LLispMachine$Functions;", true)
  | 2 => ("LispMachine$Commands", "evaluator", "LLispMachine$Evaluator;", true)
  | 3 => ("LispMachine$Commands", "terms", "LLispMachine$Terms;", true)
  | 4 => ("LispMachine$Commands", "result", "I", false)
  | _ => ("LispMachine$Commands", "kept", "I", false)
def tyX1 : Nat → FieldType := fun k => match k with
  | 0 => .object "LispMachine$Store"
  | 1 => .object "LispMachine$Functions"
  | 2 => .object "LispMachine$Evaluator"
  | 3 => .object "LispMachine$Terms"
  | 4 => .int
  | _ => .int
abbrev wsX10 : List Cond := u_ws RX1 TX1 6
theorem nmX1 : ∀ a, a < 6 → ∀ b, b < 6 → a ≠ b → (TX1 a).2.1 ≠ (TX1 b).2.1 := by decide +kernel
theorem tyX1_ok : ∀ k, k < 6 → parseFieldDescriptor (TX1 k).2.2.1 = some (tyX1 k) := by decide +kernel
abbrev cX1_init : ByteArray := prog_3_method_1_code
def yX1_init : MethodName := ⟨RX1, "<init>", "(LLispMachine$Store;LLispMachine$Functions;LLispMachine$Evaluator;)V"⟩
abbrev cX1_roomFor : ByteArray := prog_3_method_2_code
def yX1_roomFor : MethodName := ⟨RX1, "roomFor", "(I)I"⟩
abbrev cX1_perform : ByteArray := prog_3_method_3_code
def yX1_perform : MethodName := ⟨RX1, "perform", "(I)I"⟩
abbrev cX1_evaluate : ByteArray := prog_3_method_4_code
def yX1_evaluate : MethodName := ⟨RX1, "evaluate", "(III)I"⟩
abbrev cX1_boundVariables : ByteArray := prog_3_method_5_code
def yX1_boundVariables : MethodName := ⟨RX1, "boundVariables", "(I)I"⟩
abbrev cX1_map : ByteArray := prog_3_method_6_code
def yX1_map : MethodName := ⟨RX1, "map", "(II)I"⟩
abbrev cX1_reversed : ByteArray := prog_3_method_7_code
def yX1_reversed : MethodName := ⟨RX1, "reversed", "(II)I"⟩
abbrev cX1_define : ByteArray := prog_3_method_8_code
def yX1_define : MethodName := ⟨RX1, "define", "(III)I"⟩
abbrev cX1_defineAnew : ByteArray := prog_3_method_9_code
def yX1_defineAnew : MethodName := ⟨RX1, "defineAnew", "(III)I"⟩
abbrev cX1_isDefinition : ByteArray := prog_3_method_10_code
def yX1_isDefinition : MethodName := ⟨RX1, "isDefinition", "(III)Z"⟩
abbrev cX1_undo : ByteArray := prog_3_method_11_code
def yX1_undo : MethodName := ⟨RX1, "undo", "()I"⟩
abbrev cX1_show : ByteArray := prog_3_method_12_code
def yX1_show : MethodName := ⟨RX1, "show", "(I)I"⟩
abbrev cX1_isFunctionName : ByteArray := prog_3_method_13_code
def yX1_isFunctionName : MethodName := ⟨RX1, "isFunctionName", "(I)Z"⟩
abbrev cX1_areParameters : ByteArray := prog_3_method_14_code
def yX1_areParameters : MethodName := ⟨RX1, "areParameters", "(I)Z"⟩
def RX2 : String := "LispMachine$Definition"
def TX2 : u_T := fun k => match k with
  | 0 => ("LispMachine$Definition", "name", "I", true)
  | 1 => ("LispMachine$Definition", "takes", "I", true)
  | 2 => ("LispMachine$Definition", "parameters", "I", false)
  | _ => ("LispMachine$Definition", "body", "I", false)
def tyX2 : Nat → FieldType := fun k => match k with
  | 0 => .int
  | 1 => .int
  | 2 => .int
  | _ => .int
abbrev wsX20 : List Cond := u_ws RX2 TX2 4
theorem nmX2 : ∀ a, a < 4 → ∀ b, b < 4 → a ≠ b → (TX2 a).2.1 ≠ (TX2 b).2.1 := by decide +kernel
theorem tyX2_ok : ∀ k, k < 4 → parseFieldDescriptor (TX2 k).2.2.1 = some (tyX2 k) := by decide +kernel
abbrev cX2_init : ByteArray := prog_4_method_1_code
def yX2_init : MethodName := ⟨RX2, "<init>", "(IIII)V"⟩
def RX3 : String := "LispMachine$Evaluator"
def TX3 : u_T := fun k => match k with
  | 0 => ("LispMachine$Evaluator", "store", "LLispMachine$Store;", true)
  | 1 => ("LispMachine$Evaluator", "functions", "LLispMachine$Functions;", true)
  | 2 => ("LispMachine$Evaluator", "calls", "[LLispMachine$Call;", true)
  | 3 => ("LispMachine$Evaluator", "open", "I", false)
  | 4 => ("LispMachine$Evaluator", "fuel", "I", false)
  | 5 => ("LispMachine$Evaluator", "steps", "I", false)
  | 6 => ("LispMachine$Evaluator", "fault", "I", false)
  | 7 => ("LispMachine$Evaluator", "bindings", "I", false)
  | 8 => ("LispMachine$Evaluator", "move", "I", false)
  | 9 => ("LispMachine$Evaluator", "term", "I", false)
  | 10 => ("LispMachine$Evaluator", "scope", "LLispMachine$Call;", false)
  | _ => ("LispMachine$Evaluator", "value", "I", false)
def tyX3 : Nat → FieldType := fun k => match k with
  | 0 => .object "LispMachine$Store"
  | 1 => .object "LispMachine$Functions"
  | 2 => .array (.object "LispMachine$Call")
  | 3 => .int
  | 4 => .int
  | 5 => .int
  | 6 => .int
  | 7 => .int
  | 8 => .int
  | 9 => .int
  | 10 => .object "LispMachine$Call"
  | _ => .int
abbrev wsX30 : List Cond := u_ws RX3 TX3 12
theorem nmX3 : ∀ a, a < 12 → ∀ b, b < 12 → a ≠ b → (TX3 a).2.1 ≠ (TX3 b).2.1 := by decide +kernel
theorem tyX3_ok : ∀ k, k < 12 → parseFieldDescriptor (TX3 k).2.2.1 = some (tyX3 k) := by decide +kernel
abbrev cX3_init : ByteArray := prog_5_method_1_code
def yX3_init : MethodName := ⟨RX3, "<init>", "(LLispMachine$Store;LLispMachine$Functions;)V"⟩
abbrev cX3_clear : ByteArray := prog_5_method_2_code
def yX3_clear : MethodName := ⟨RX3, "clear", "()V"⟩
abbrev cX3_beginWith : ByteArray := prog_5_method_3_code
def yX3_beginWith : MethodName := ⟨RX3, "beginWith", "(II)V"⟩
abbrev cX3_beginCall : ByteArray := prog_5_method_4_code
def yX3_beginCall : MethodName := ⟨RX3, "beginCall", "(LLispMachine$Definition;I)V"⟩
abbrev cX3_finish : ByteArray := prog_5_method_5_code
def yX3_finish : MethodName := ⟨RX3, "finish", "()I"⟩
abbrev cX3_evaluateNext : ByteArray := prog_5_method_6_code
def yX3_evaluateNext : MethodName := ⟨RX3, "evaluateNext", "(ILLispMachine$Call;)V"⟩
abbrev cX3_beginTerm : ByteArray := prog_5_method_7_code
def yX3_beginTerm : MethodName := ⟨RX3, "beginTerm", "()V"⟩
abbrev cX3_answer : ByteArray := prog_5_method_8_code
def yX3_answer : MethodName := ⟨RX3, "answer", "(I)V"⟩
abbrev cX3_argumentOf : ByteArray := prog_5_method_9_code
def yX3_argumentOf : MethodName := ⟨RX3, "argumentOf", "(LLispMachine$Call;I)I"⟩
abbrev cX3_boundValueOf : ByteArray := prog_5_method_10_code
def yX3_boundValueOf : MethodName := ⟨RX3, "boundValueOf", "(I)I"⟩
abbrev cX3_openCall : ByteArray := prog_5_method_11_code
def yX3_openCall : MethodName := ⟨RX3, "openCall", "(II)V"⟩
abbrev cX3_handOverValue : ByteArray := prog_5_method_12_code
def yX3_handOverValue : MethodName := ⟨RX3, "handOverValue", "(LLispMachine$Call;)V"⟩
abbrev cX3_applyBase : ByteArray := prog_5_method_13_code
def yX3_applyBase : MethodName := ⟨RX3, "applyBase", "(LLispMachine$Call;)V"⟩
abbrev cX3_truth : ByteArray := prog_5_method_14_code
def yX3_truth : MethodName := ⟨RX3, "truth", "(Z)I"⟩
def RX4 : String := "LispMachine$Functions"
def TX4 : u_T := fun k => match k with
  | 0 => ("LispMachine$Functions", "table", "[LLispMachine$Definition;", true)
  | _ => ("LispMachine$Functions", "count", "I", false)
def tyX4 : Nat → FieldType := fun k => match k with
  | 0 => .array (.object "LispMachine$Definition")
  | _ => .int
abbrev wsX40 : List Cond := u_ws RX4 TX4 2
theorem nmX4 : ∀ a, a < 2 → ∀ b, b < 2 → a ≠ b → (TX4 a).2.1 ≠ (TX4 b).2.1 := by decide +kernel
theorem tyX4_ok : ∀ k, k < 2 → parseFieldDescriptor (TX4 k).2.2.1 = some (tyX4 k) := by decide +kernel
abbrev cX4_init : ByteArray := prog_6_method_1_code
def yX4_init : MethodName := ⟨RX4, "<init>", "()V"⟩
abbrev cX4_find : ByteArray := prog_6_method_2_code
def yX4_find : MethodName := ⟨RX4, "find", "(I)LLispMachine$Definition;"⟩
abbrev cX4_at : ByteArray := prog_6_method_3_code
def yX4_at : MethodName := ⟨RX4, "at", "(I)LLispMachine$Definition;"⟩
abbrev cX4_isFull : ByteArray := prog_6_method_4_code
def yX4_isFull : MethodName := ⟨RX4, "isFull", "()Z"⟩
abbrev cX4_add : ByteArray := prog_6_method_5_code
def yX4_add : MethodName := ⟨RX4, "add", "(LLispMachine$Definition;)V"⟩
abbrev cX4_removeLast : ByteArray := prog_6_method_6_code
def yX4_removeLast : MethodName := ⟨RX4, "removeLast", "()V"⟩
def RX5 : String := "LispMachine$Reader"
def TX5 : u_T := fun k => match k with
  | 0 => ("LispMachine$Reader", "store", "LLispMachine$Store;", true)
  | 1 => ("LispMachine$Reader", "text", "[C", true)
  | 2 => ("LispMachine$Reader", "length", "I", false)
  | 3 => ("LispMachine$Reader", "fault", "I", false)
  | 4 => ("LispMachine$Reader", "place", "I", false)
  | 5 => ("LispMachine$Reader", "items", "[I", true)
  | 6 => ("LispMachine$Reader", "itemCount", "I", false)
  | 7 => ("LispMachine$Reader", "firstItem", "[I", true)
  | 8 => ("LispMachine$Reader", "awaited", "[I", true)
  | 9 => ("LispMachine$Reader", "open", "I", false)
  | 10 => ("LispMachine$Reader", "words", "I", false)
  | 11 => ("LispMachine$Reader", "digitsAlone", "Z", false)
  | 12 => ("LispMachine$Reader", "amount", "J", false)
  | _ => ("LispMachine$Reader", "spelling", "J", false)
def tyX5 : Nat → FieldType := fun k => match k with
  | 0 => .object "LispMachine$Store"
  | 1 => .array .char
  | 2 => .int
  | 3 => .int
  | 4 => .int
  | 5 => .array .int
  | 6 => .int
  | 7 => .array .int
  | 8 => .array .int
  | 9 => .int
  | 10 => .int
  | 11 => .boolean
  | 12 => .long
  | _ => .long
abbrev wsX50 : List Cond := u_ws RX5 TX5 14
theorem nmX5 : ∀ a, a < 14 → ∀ b, b < 14 → a ≠ b → (TX5 a).2.1 ≠ (TX5 b).2.1 := by decide +kernel
theorem tyX5_ok : ∀ k, k < 14 → parseFieldDescriptor (TX5 k).2.2.1 = some (tyX5 k) := by decide +kernel
abbrev cX5_init : ByteArray := prog_7_method_1_code
def yX5_init : MethodName := ⟨RX5, "<init>", "(LLispMachine$Store;)V"⟩
abbrev cX5_append : ByteArray := prog_7_method_2_code
def yX5_append : MethodName := ⟨RX5, "append", "(C)V"⟩
abbrev cX5_clear : ByteArray := prog_7_method_3_code
def yX5_clear : MethodName := ⟨RX5, "clear", "()V"⟩
abbrev cX5_read : ByteArray := prog_7_method_4_code
def yX5_read : MethodName := ⟨RX5, "read", "()I"⟩
abbrev cX5_behindBlanks : ByteArray := prog_7_method_5_code
def yX5_behindBlanks : MethodName := ⟨RX5, "behindBlanks", "(II)I"⟩
abbrev cX5_behindWord : ByteArray := prog_7_method_6_code
def yX5_behindWord : MethodName := ⟨RX5, "behindWord", "(II)I"⟩
abbrev cX5_faultOfWord : ByteArray := prog_7_method_7_code
def yX5_faultOfWord : MethodName := ⟨RX5, "faultOfWord", "(II)I"⟩
abbrev cX5_isAtomLetter : ByteArray := prog_7_method_8_code
def yX5_isAtomLetter : MethodName := ⟨RX5, "isAtomLetter", "(C)Z"⟩
abbrev cX5_scanAtom : ByteArray := prog_7_method_9_code
def yX5_scanAtom : MethodName := ⟨RX5, "scanAtom", "(II)Z"⟩
abbrev cX5_mayStand : ByteArray := prog_7_method_10_code
def yX5_mayStand : MethodName := ⟨RX5, "mayStand", "(C)Z"⟩
abbrev cX5_take : ByteArray := prog_7_method_11_code
def yX5_take : MethodName := ⟨RX5, "take", "(C)V"⟩
abbrev cX5_openAt : ByteArray := prog_7_method_12_code
def yX5_openAt : MethodName := ⟨RX5, "openAt", "(I)V"⟩
abbrev cX5_closeList : ByteArray := prog_7_method_13_code
def yX5_closeList : MethodName := ⟨RX5, "closeList", "()V"⟩
abbrev cX5_finish : ByteArray := prog_7_method_14_code
def yX5_finish : MethodName := ⟨RX5, "finish", "(I)V"⟩
def RX6 : String := "LispMachine$Store"
def TX6 : u_T := fun k => match k with
  | 0 => ("LispMachine$Store", "left", "[J", false)
  | 1 => ("LispMachine$Store", "right", "[I", false)
  | 2 => ("LispMachine$Store", "height", "[I", false)
  | 3 => ("LispMachine$Store", "next", "[I", false)
  | 4 => ("LispMachine$Store", "buckets", "[I", true)
  | _ => ("LispMachine$Store", "count", "I", false)
def tyX6 : Nat → FieldType := fun k => match k with
  | 0 => .array .long
  | 1 => .array .int
  | 2 => .array .int
  | 3 => .array .int
  | 4 => .array .int
  | _ => .int
abbrev wsX60 : List Cond := u_ws RX6 TX6 6
theorem nmX6 : ∀ a, a < 6 → ∀ b, b < 6 → a ≠ b → (TX6 a).2.1 ≠ (TX6 b).2.1 := by decide +kernel
theorem tyX6_ok : ∀ k, k < 6 → parseFieldDescriptor (TX6 k).2.2.1 = some (tyX6 k) := by decide +kernel
abbrev cX6_init : ByteArray := prog_8_method_1_code
def yX6_init : MethodName := ⟨RX6, "<init>", "()V"⟩
abbrev cX6_natural : ByteArray := prog_8_method_2_code
def yX6_natural : MethodName := ⟨RX6, "natural", "(J)I"⟩
abbrev cX6_symbol : ByteArray := prog_8_method_3_code
def yX6_symbol : MethodName := ⟨RX6, "symbol", "(J)I"⟩
abbrev cX6_pair : ByteArray := prog_8_method_4_code
def yX6_pair : MethodName := ⟨RX6, "pair", "(II)I"⟩
abbrev cX6_isPair : ByteArray := prog_8_method_5_code
def yX6_isPair : MethodName := ⟨RX6, "isPair", "(I)Z"⟩
abbrev cX6_isNatural : ByteArray := prog_8_method_6_code
def yX6_isNatural : MethodName := ⟨RX6, "isNatural", "(I)Z"⟩
abbrev cX6_isSymbol : ByteArray := prog_8_method_7_code
def yX6_isSymbol : MethodName := ⟨RX6, "isSymbol", "(I)Z"⟩
abbrev cX6_isVariable : ByteArray := prog_8_method_8_code
def yX6_isVariable : MethodName := ⟨RX6, "isVariable", "(I)Z"⟩
abbrev cX6_isQuoted : ByteArray := prog_8_method_9_code
def yX6_isQuoted : MethodName := ⟨RX6, "isQuoted", "(I)Z"⟩
abbrev cX6_head : ByteArray := prog_8_method_10_code
def yX6_head : MethodName := ⟨RX6, "head", "(I)I"⟩
abbrev cX6_tail : ByteArray := prog_8_method_11_code
def yX6_tail : MethodName := ⟨RX6, "tail", "(I)I"⟩
abbrev cX6_second : ByteArray := prog_8_method_12_code
def yX6_second : MethodName := ⟨RX6, "second", "(I)I"⟩
abbrev cX6_third : ByteArray := prog_8_method_13_code
def yX6_third : MethodName := ⟨RX6, "third", "(I)I"⟩
abbrev cX6_fourth : ByteArray := prog_8_method_14_code
def yX6_fourth : MethodName := ⟨RX6, "fourth", "(I)I"⟩
abbrev cX6_heightOf : ByteArray := prog_8_method_15_code
def yX6_heightOf : MethodName := ⟨RX6, "heightOf", "(I)I"⟩
abbrev cX6_amount : ByteArray := prog_8_method_16_code
def yX6_amount : MethodName := ⟨RX6, "amount", "(I)J"⟩
abbrev cX6_spelling : ByteArray := prog_8_method_17_code
def yX6_spelling : MethodName := ⟨RX6, "spelling", "(I)J"⟩
abbrev cX6_lengthOf : ByteArray := prog_8_method_18_code
def yX6_lengthOf : MethodName := ⟨RX6, "lengthOf", "(I)I"⟩
abbrev cX6_isElement : ByteArray := prog_8_method_19_code
def yX6_isElement : MethodName := ⟨RX6, "isElement", "(II)Z"⟩
abbrev cX6_makeRoom : ByteArray := prog_8_method_20_code
def yX6_makeRoom : MethodName := ⟨RX6, "makeRoom", "(I)Z"⟩
abbrev cX6_forgetFrom : ByteArray := prog_8_method_21_code
def yX6_forgetFrom : MethodName := ⟨RX6, "forgetFrom", "(I)V"⟩
abbrev cX6_hold : ByteArray := prog_8_method_22_code
def yX6_hold : MethodName := ⟨RX6, "hold", "(JII)I"⟩
abbrev cX6_bucketOf : ByteArray := prog_8_method_23_code
def yX6_bucketOf : MethodName := ⟨RX6, "bucketOf", "(JI)I"⟩
def RX7 : String := "LispMachine$Teller"
def TX7 : u_T := fun k => match k with
  | 0 => ("LispMachine$Teller", "store", "LLispMachine$Store;", true)
  | 1 => ("LispMachine$Teller", "out", "[C", true)
  | 2 => ("LispMachine$Teller", "length", "I", false)
  | 3 => ("LispMachine$Teller", "rests", "[I", true)
  | _ => ("LispMachine$Teller", "open", "I", false)
def tyX7 : Nat → FieldType := fun k => match k with
  | 0 => .object "LispMachine$Store"
  | 1 => .array .char
  | 2 => .int
  | 3 => .array .int
  | _ => .int
abbrev wsX70 : List Cond := u_ws RX7 TX7 5
theorem nmX7 : ∀ a, a < 5 → ∀ b, b < 5 → a ≠ b → (TX7 a).2.1 ≠ (TX7 b).2.1 := by decide +kernel
theorem tyX7_ok : ∀ k, k < 5 → parseFieldDescriptor (TX7 k).2.2.1 = some (tyX7 k) := by decide +kernel
abbrev cX7_init : ByteArray := prog_9_method_1_code
def yX7_init : MethodName := ⟨RX7, "<init>", "(LLispMachine$Store;)V"⟩
abbrev cX7_clear : ByteArray := prog_9_method_2_code
def yX7_clear : MethodName := ⟨RX7, "clear", "()V"⟩
abbrev cX7_characterAt : ByteArray := prog_9_method_3_code
def yX7_characterAt : MethodName := ⟨RX7, "characterAt", "(I)I"⟩
abbrev cX7_tell : ByteArray := prog_9_method_4_code
def yX7_tell : MethodName := ⟨RX7, "tell", "(I)V"⟩
abbrev cX7_beginObject : ByteArray := prog_9_method_5_code
def yX7_beginObject : MethodName := ⟨RX7, "beginObject", "(I)I"⟩
abbrev cX7_beginRest : ByteArray := prog_9_method_6_code
def yX7_beginRest : MethodName := ⟨RX7, "beginRest", "(I)I"⟩
abbrev cX7_goOn : ByteArray := prog_9_method_7_code
def yX7_goOn : MethodName := ⟨RX7, "goOn", "()I"⟩
abbrev cX7_putAtom : ByteArray := prog_9_method_8_code
def yX7_putAtom : MethodName := ⟨RX7, "putAtom", "(I)V"⟩
abbrev cX7_putNatural : ByteArray := prog_9_method_9_code
def yX7_putNatural : MethodName := ⟨RX7, "putNatural", "(J)V"⟩
abbrev cX7_putSymbol : ByteArray := prog_9_method_10_code
def yX7_putSymbol : MethodName := ⟨RX7, "putSymbol", "(J)V"⟩
abbrev cX7_put : ByteArray := prog_9_method_11_code
def yX7_put : MethodName := ⟨RX7, "put", "(C)V"⟩
def RX8 : String := "LispMachine$Terms"
def TX8 : u_T := fun k => match k with
  | 0 => ("LispMachine$Terms", "store", "LLispMachine$Store;", true)
  | 1 => ("LispMachine$Terms", "functions", "LLispMachine$Functions;", true)
  | 2 => ("LispMachine$Terms", "parts", "[I", true)
  | _ => ("LispMachine$Terms", "count", "I", false)
def tyX8 : Nat → FieldType := fun k => match k with
  | 0 => .object "LispMachine$Store"
  | 1 => .object "LispMachine$Functions"
  | 2 => .array .int
  | _ => .int
abbrev wsX80 : List Cond := u_ws RX8 TX8 4
theorem nmX8 : ∀ a, a < 4 → ∀ b, b < 4 → a ≠ b → (TX8 a).2.1 ≠ (TX8 b).2.1 := by decide +kernel
theorem tyX8_ok : ∀ k, k < 4 → parseFieldDescriptor (TX8 k).2.2.1 = some (tyX8 k) := by decide +kernel
abbrev cX8_init : ByteArray := prog_10_method_1_code
def yX8_init : MethodName := ⟨RX8, "<init>", "(LLispMachine$Store;LLispMachine$Functions;)V"⟩
abbrev cX8_isTerm : ByteArray := prog_10_method_2_code
def yX8_isTerm : MethodName := ⟨RX8, "isTerm", "(IIII)Z"⟩
abbrev cX8_isCalled : ByteArray := prog_10_method_3_code
def yX8_isCalled : MethodName := ⟨RX8, "isCalled", "(II)Z"⟩
abbrev cX8_plain : ByteArray := prog_10_method_4_code
def yX8_plain : MethodName := ⟨RX8, "plain", "(I)I"⟩
abbrev cX8_startWith : ByteArray := prog_10_method_5_code
def yX8_startWith : MethodName := ⟨RX8, "startWith", "(I)V"⟩
abbrev cX8_gather : ByteArray := prog_10_method_6_code
def yX8_gather : MethodName := ⟨RX8, "gather", "(I)V"⟩
abbrev cX8_addTermsOf : ByteArray := prog_10_method_7_code
def yX8_addTermsOf : MethodName := ⟨RX8, "addTermsOf", "(I)Z"⟩
abbrev cX8_listOfParts : ByteArray := prog_10_method_8_code
def yX8_listOfParts : MethodName := ⟨RX8, "listOfParts", "(II)I"⟩
abbrev cX8_takesOf : ByteArray := prog_10_method_9_code
def yX8_takesOf : MethodName := ⟨RX8, "takesOf", "(I)I"⟩
abbrev cX8_isCall : ByteArray := prog_10_method_10_code
def yX8_isCall : MethodName := ⟨RX8, "isCall", "(I)Z"⟩
abbrev cX8_isPlainConstant : ByteArray := prog_10_method_11_code
def yX8_isPlainConstant : MethodName := ⟨RX8, "isPlainConstant", "(I)Z"⟩
def RX9 : String := "LispMachine"
def TX9 : u_T := fun k => match k with
  | 0 => ("LispMachine", "waiting", "[I", true)
  | 1 => ("LispMachine", "store", "LLispMachine$Store;", true)
  | 2 => ("LispMachine", "reader", "LLispMachine$Reader;", true)
  | 3 => ("LispMachine", "teller", "LLispMachine$Teller;", true)
  | 4 => ("LispMachine", "functions", "LLispMachine$Functions;", true)
  | 5 => ("LispMachine", "evaluator", "LLispMachine$Evaluator;", true)
  | _ => ("LispMachine", "commands", "LLispMachine$Commands;", true)
def tyX9 : Nat → FieldType := fun k => match k with
  | 0 => .array .int
  | 1 => .object "LispMachine$Store"
  | 2 => .object "LispMachine$Reader"
  | 3 => .object "LispMachine$Teller"
  | 4 => .object "LispMachine$Functions"
  | 5 => .object "LispMachine$Evaluator"
  | _ => .object "LispMachine$Commands"
abbrev wsX90 : List Cond := u_ws RX9 TX9 7
theorem nmX9 : ∀ a, a < 7 → ∀ b, b < 7 → a ≠ b → (TX9 a).2.1 ≠ (TX9 b).2.1 := by decide +kernel
theorem tyX9_ok : ∀ k, k < 7 → parseFieldDescriptor (TX9 k).2.2.1 = some (tyX9 k) := by decide +kernel
abbrev cX9_init : ByteArray := prog_1_method_1_code
def yX9_init : MethodName := ⟨RX9, "<init>", "()V"⟩
abbrev cX9_feed : ByteArray := prog_1_method_2_code
def yX9_feed : MethodName := ⟨RX9, "feed", "(IIIII)V"⟩
abbrev cX9_end : ByteArray := prog_1_method_3_code
def yX9_end : MethodName := ⟨RX9, "end", "(I)I"⟩
abbrev cX9_fuel : ByteArray := prog_1_method_4_code
def yX9_fuel : MethodName := ⟨RX9, "fuel", "(I)I"⟩
abbrev cX9_run : ByteArray := prog_1_method_5_code
def yX9_run : MethodName := ⟨RX9, "run", "()I"⟩
abbrev cX9_fault : ByteArray := prog_1_method_6_code
def yX9_fault : MethodName := ⟨RX9, "fault", "(I)I"⟩
abbrev cX9_steps : ByteArray := prog_1_method_7_code
def yX9_steps : MethodName := ⟨RX9, "steps", "()I"⟩
abbrev cX9_functions : ByteArray := prog_1_method_8_code
def yX9_functions : MethodName := ⟨RX9, "functions", "()I"⟩
abbrev cX9_size : ByteArray := prog_1_method_9_code
def yX9_size : MethodName := ⟨RX9, "size", "()I"⟩
abbrev cX9_letter : ByteArray := prog_1_method_10_code
def yX9_letter : MethodName := ⟨RX9, "letter", "(I)I"⟩
def RX10 : String := "LispMachineModel"
def TX10 : u_T := fun k => match k with
  | 0 => ("LispMachineModel", "left", "[I", true)
  | 1 => ("LispMachineModel", "right", "[I", true)
  | 2 => ("LispMachineModel", "next", "[I", true)
  | 3 => ("LispMachineModel", "sizes", "[I", true)
  | 4 => ("LispMachineModel", "heights", "[I", true)
  | 5 => ("LispMachineModel", "number", "[J", true)
  | 6 => ("LispMachineModel", "heads", "[I", true)
  | 7 => ("LispMachineModel", "objects", "I", false)
  | 8 => ("LispMachineModel", "names", "[I", true)
  | 9 => ("LispMachineModel", "lengths", "[I", true)
  | 10 => ("LispMachineModel", "symbols", "I", false)
  | 11 => ("LispMachineModel", "waiting", "[I", true)
  | 12 => ("LispMachineModel", "text", "[I", true)
  | 13 => ("LispMachineModel", "textSize", "I", false)
  | 14 => ("LispMachineModel", "out", "[I", true)
  | 15 => ("LispMachineModel", "outSize", "I", false)
  | 16 => ("LispMachineModel", "word", "[I", true)
  | 17 => ("LispMachineModel", "wordSize", "I", false)
  | 18 => ("LispMachineModel", "tellWhat", "[I", true)
  | 19 => ("LispMachineModel", "telling", "I", false)
  | 20 => ("LispMachineModel", "at", "I", false)
  | 21 => ("LispMachineModel", "readFault", "I", false)
  | 22 => ("LispMachineModel", "readPlace", "I", false)
  | 23 => ("LispMachineModel", "openSort", "[I", true)
  | 24 => ("LispMachineModel", "openFrom", "[I", true)
  | 25 => ("LispMachineModel", "openState", "[I", true)
  | 26 => ("LispMachineModel", "openLast", "[I", true)
  | 27 => ("LispMachineModel", "open", "I", false)
  | 28 => ("LispMachineModel", "items", "[I", true)
  | 29 => ("LispMachineModel", "itemSize", "I", false)
  | 30 => ("LispMachineModel", "whole", "I", false)
  | 31 => ("LispMachineModel", "done", "Z", false)
  | 32 => ("LispMachineModel", "defs", "I", false)
  | 33 => ("LispMachineModel", "defName", "[I", true)
  | 34 => ("LispMachineModel", "defMany", "[I", true)
  | 35 => ("LispMachineModel", "defVariable", "[I", true)
  | 36 => ("LispMachineModel", "defBody", "[I", true)
  | 37 => ("LispMachineModel", "comingName", "I", false)
  | 38 => ("LispMachineModel", "comingMany", "I", false)
  | 39 => ("LispMachineModel", "fuel", "I", false)
  | 40 => ("LispMachineModel", "steps", "I", false)
  | 41 => ("LispMachineModel", "work", "I", false)
  | 42 => ("LispMachineModel", "callOf", "[I", true)
  | 43 => ("LispMachineModel", "restOf", "[I", true)
  | 44 => ("LispMachineModel", "fromOf", "[I", true)
  | 45 => ("LispMachineModel", "calls", "I", false)
  | 46 => ("LispMachineModel", "built", "[I", true)
  | 47 => ("LispMachineModel", "builtSize", "I", false)
  | 48 => ("LispMachineModel", "walk", "[I", true)
  | 49 => ("LispMachineModel", "walking", "I", false)
  | 50 => ("LispMachineModel", "its", "[I", true)
  | 51 => ("LispMachineModel", "itsMany", "I", false)
  | 52 => ("LispMachineModel", "topVariable", "[I", true)
  | 53 => ("LispMachineModel", "topValue", "[I", true)
  | 54 => ("LispMachineModel", "tops", "I", false)
  | 55 => ("LispMachineModel", "evalTerm", "[I", true)
  | 56 => ("LispMachineModel", "evalRest", "[I", true)
  | 57 => ("LispMachineModel", "evalFrom", "[I", true)
  | 58 => ("LispMachineModel", "evalDef", "[I", true)
  | 59 => ("LispMachineModel", "evalBase", "[I", true)
  | 60 => ("LispMachineModel", "evalEnds", "[Z", true)
  | 61 => ("LispMachineModel", "evals", "I", false)
  | 62 => ("LispMachineModel", "value", "[I", true)
  | 63 => ("LispMachineModel", "values", "I", false)
  | 64 => ("LispMachineModel", "evalLimit", "I", false)
  | 65 => ("LispMachineModel", "evalWhy", "I", false)
  | 66 => ("LispMachineModel", "evalDone", "Z", false)
  | 67 => ("LispMachineModel", "evalValue", "I", false)
  | 68 => ("LispMachineModel", "mapped", "[I", true)
  | _ => ("LispMachineModel", "took", "Z", false)
def tyX10 : Nat → FieldType := fun k => match k with
  | 0 => .array .int
  | 1 => .array .int
  | 2 => .array .int
  | 3 => .array .int
  | 4 => .array .int
  | 5 => .array .long
  | 6 => .array .int
  | 7 => .int
  | 8 => .array .int
  | 9 => .array .int
  | 10 => .int
  | 11 => .array .int
  | 12 => .array .int
  | 13 => .int
  | 14 => .array .int
  | 15 => .int
  | 16 => .array .int
  | 17 => .int
  | 18 => .array .int
  | 19 => .int
  | 20 => .int
  | 21 => .int
  | 22 => .int
  | 23 => .array .int
  | 24 => .array .int
  | 25 => .array .int
  | 26 => .array .int
  | 27 => .int
  | 28 => .array .int
  | 29 => .int
  | 30 => .int
  | 31 => .boolean
  | 32 => .int
  | 33 => .array .int
  | 34 => .array .int
  | 35 => .array .int
  | 36 => .array .int
  | 37 => .int
  | 38 => .int
  | 39 => .int
  | 40 => .int
  | 41 => .int
  | 42 => .array .int
  | 43 => .array .int
  | 44 => .array .int
  | 45 => .int
  | 46 => .array .int
  | 47 => .int
  | 48 => .array .int
  | 49 => .int
  | 50 => .array .int
  | 51 => .int
  | 52 => .array .int
  | 53 => .array .int
  | 54 => .int
  | 55 => .array .int
  | 56 => .array .int
  | 57 => .array .int
  | 58 => .array .int
  | 59 => .array .int
  | 60 => .array .boolean
  | 61 => .int
  | 62 => .array .int
  | 63 => .int
  | 64 => .int
  | 65 => .int
  | 66 => .boolean
  | 67 => .int
  | 68 => .array .int
  | _ => .boolean
abbrev wsX100 : List Cond := u_ws RX10 TX10 70
theorem nmX10 : ∀ a, a < 70 → ∀ b, b < 70 → a ≠ b → (TX10 a).2.1 ≠ (TX10 b).2.1 := by decide +kernel
theorem tyX10_ok : ∀ k, k < 70 → parseFieldDescriptor (TX10 k).2.2.1 = some (tyX10 k) := by decide +kernel
abbrev cX10_init : ByteArray := prog_12_method_1_code
def yX10_init : MethodName := ⟨RX10, "<init>", "()V"⟩
abbrev cX10_said : ByteArray := prog_12_method_3_code
def yX10_said : MethodName := ⟨RX10, "said", "(IIIIIIII)V"⟩
abbrev cX10_spell : ByteArray := prog_12_method_4_code
def yX10_spell : MethodName := ⟨RX10, "spell", "(I)V"⟩
abbrev cX10_slot : ByteArray := prog_12_method_5_code
def yX10_slot : MethodName := ⟨RX10, "slot", "(II)I"⟩
abbrev cX10_slotOf : ByteArray := prog_12_method_6_code
def yX10_slotOf : MethodName := ⟨RX10, "slotOf", "(I)I"⟩
abbrev cX10_spelled : ByteArray := prog_12_method_7_code
def yX10_spelled : MethodName := ⟨RX10, "spelled", "(IIZ)I"⟩
abbrev cX10_added : ByteArray := prog_12_method_8_code
def yX10_added : MethodName := ⟨RX10, "added", "(III)I"⟩
abbrev cX10_pair : ByteArray := prog_12_method_9_code
def yX10_pair : MethodName := ⟨RX10, "pair", "(II)I"⟩
abbrev cX10_natural : ByteArray := prog_12_method_10_code
def yX10_natural : MethodName := ⟨RX10, "natural", "(J)I"⟩
abbrev cX10_isWord : ByteArray := prog_12_method_11_code
def yX10_isWord : MethodName := ⟨RX10, "isWord", "(I)Z"⟩
abbrev cX10_symbol : ByteArray := prog_12_method_12_code
def yX10_symbol : MethodName := ⟨RX10, "symbol", "()I"⟩
abbrev cX10_forget : ByteArray := prog_12_method_13_code
def yX10_forget : MethodName := ⟨RX10, "forget", "(I)V"⟩
abbrev cX10_isPair : ByteArray := prog_12_method_14_code
def yX10_isPair : MethodName := ⟨RX10, "isPair", "(I)Z"⟩
abbrev cX10_isNatural : ByteArray := prog_12_method_15_code
def yX10_isNatural : MethodName := ⟨RX10, "isNatural", "(I)Z"⟩
abbrev cX10_isSymbol : ByteArray := prog_12_method_16_code
def yX10_isSymbol : MethodName := ⟨RX10, "isSymbol", "(I)Z"⟩
abbrev cX10_list1 : ByteArray := prog_12_method_17_code
def yX10_list1 : MethodName := ⟨RX10, "list1", "(I)I"⟩
abbrev cX10_list2 : ByteArray := prog_12_method_18_code
def yX10_list2 : MethodName := ⟨RX10, "list2", "(II)I"⟩
abbrev cX10_list3 : ByteArray := prog_12_method_19_code
def yX10_list3 : MethodName := ⟨RX10, "list3", "(III)I"⟩
abbrev cX10_list4 : ByteArray := prog_12_method_20_code
def yX10_list4 : MethodName := ⟨RX10, "list4", "(IIII)I"⟩
abbrev cX10_lengthOf : ByteArray := prog_12_method_21_code
def yX10_lengthOf : MethodName := ⟨RX10, "lengthOf", "(I)I"⟩
abbrev cX10_nth : ByteArray := prog_12_method_22_code
def yX10_nth : MethodName := ⟨RX10, "nth", "(II)I"⟩
abbrev cX10_isDigit : ByteArray := prog_12_method_23_code
def yX10_isDigit : MethodName := ⟨RX10, "isDigit", "(I)Z"⟩
abbrev cX10_isAtom : ByteArray := prog_12_method_24_code
def yX10_isAtom : MethodName := ⟨RX10, "isAtom", "(I)Z"⟩
abbrev cX10_skip : ByteArray := prog_12_method_25_code
def yX10_skip : MethodName := ⟨RX10, "skip", "()V"⟩
abbrev cX10_bad : ByteArray := prog_12_method_26_code
def yX10_bad : MethodName := ⟨RX10, "bad", "(II)V"⟩
abbrev cX10_mayBegin : ByteArray := prog_12_method_27_code
def yX10_mayBegin : MethodName := ⟨RX10, "mayBegin", "()Z"⟩
abbrev cX10_begin : ByteArray := prog_12_method_28_code
def yX10_begin : MethodName := ⟨RX10, "begin", "(I)V"⟩
abbrev cX10_deliver : ByteArray := prog_12_method_29_code
def yX10_deliver : MethodName := ⟨RX10, "deliver", "(I)V"⟩
abbrev cX10_close : ByteArray := prog_12_method_30_code
def yX10_close : MethodName := ⟨RX10, "close", "()V"⟩
abbrev cX10_atom : ByteArray := prog_12_method_31_code
def yX10_atom : MethodName := ⟨RX10, "atom", "(II)I"⟩
abbrev cX10_isInList : ByteArray := prog_12_method_32_code
def yX10_isInList : MethodName := ⟨RX10, "isInList", "()Z"⟩
abbrev cX10_readWord : ByteArray := prog_12_method_33_code
def yX10_readWord : MethodName := ⟨RX10, "readWord", "(I)V"⟩
abbrev cX10_reads : ByteArray := prog_12_method_34_code
def yX10_reads : MethodName := ⟨RX10, "reads", "()Z"⟩
abbrev cX10_tellLetter : ByteArray := prog_12_method_35_code
def yX10_tellLetter : MethodName := ⟨RX10, "tellLetter", "(I)V"⟩
abbrev cX10_isFull : ByteArray := prog_12_method_36_code
def yX10_isFull : MethodName := ⟨RX10, "isFull", "()Z"⟩
abbrev cX10_tellAtom : ByteArray := prog_12_method_37_code
def yX10_tellAtom : MethodName := ⟨RX10, "tellAtom", "(I)V"⟩
abbrev cX10_isQuoted : ByteArray := prog_12_method_38_code
def yX10_isQuoted : MethodName := ⟨RX10, "isQuoted", "(I)Z"⟩
abbrev cX10_later : ByteArray := prog_12_method_39_code
def yX10_later : MethodName := ⟨RX10, "later", "(I)V"⟩
abbrev cX10_tellObject : ByteArray := prog_12_method_40_code
def yX10_tellObject : MethodName := ⟨RX10, "tellObject", "(I)V"⟩
abbrev cX10_isVariable : ByteArray := prog_12_method_41_code
def yX10_isVariable : MethodName := ⟨RX10, "isVariable", "(I)Z"⟩
abbrev cX10_isConstant : ByteArray := prog_12_method_42_code
def yX10_isConstant : MethodName := ⟨RX10, "isConstant", "(I)Z"⟩
abbrev cX10_isCall : ByteArray := prog_12_method_43_code
def yX10_isCall : MethodName := ⟨RX10, "isCall", "(I)Z"⟩
abbrev cX10_isCallOf : ByteArray := prog_12_method_44_code
def yX10_isCallOf : MethodName := ⟨RX10, "isCallOf", "(II)Z"⟩
abbrev cX10_constantOf : ByteArray := prog_12_method_45_code
def yX10_constantOf : MethodName := ⟨RX10, "constantOf", "(I)I"⟩
abbrev cX10_valueOf : ByteArray := prog_12_method_46_code
def yX10_valueOf : MethodName := ⟨RX10, "valueOf", "(I)I"⟩
abbrev cX10_term : ByteArray := prog_12_method_47_code
def yX10_term : MethodName := ⟨RX10, "term", "(II)I"⟩
abbrev cX10_functionOf : ByteArray := prog_12_method_48_code
def yX10_functionOf : MethodName := ⟨RX10, "functionOf", "(I)I"⟩
abbrev cX10_manyOf : ByteArray := prog_12_method_49_code
def yX10_manyOf : MethodName := ⟨RX10, "manyOf", "(I)I"⟩
abbrev cX10_isReserved : ByteArray := prog_12_method_50_code
def yX10_isReserved : MethodName := ⟨RX10, "isReserved", "(I)Z"⟩
abbrev cX10_sizeOf : ByteArray := prog_12_method_52_code
def yX10_sizeOf : MethodName := ⟨RX10, "sizeOf", "(I)I"⟩
abbrev cX10_callFrom : ByteArray := prog_12_method_53_code
def yX10_callFrom : MethodName := ⟨RX10, "callFrom", "(II)I"⟩
abbrev cX10_build : ByteArray := prog_12_method_54_code
def yX10_build : MethodName := ⟨RX10, "build", "(I)V"⟩
abbrev cX10_openCall : ByteArray := prog_12_method_55_code
def yX10_openCall : MethodName := ⟨RX10, "openCall", "(I)V"⟩
abbrev cX10_beginTerm : ByteArray := prog_12_method_56_code
def yX10_beginTerm : MethodName := ⟨RX10, "beginTerm", "(I)Z"⟩
abbrev cX10_termOf : ByteArray := prog_12_method_57_code
def yX10_termOf : MethodName := ⟨RX10, "termOf", "(I)I"⟩
abbrev cX10_walkTo : ByteArray := prog_12_method_58_code
def yX10_walkTo : MethodName := ⟨RX10, "walkTo", "(I)V"⟩
abbrev cX10_walkOn : ByteArray := prog_12_method_59_code
def yX10_walkOn : MethodName := ⟨RX10, "walkOn", "()I"⟩
abbrev cX10_hasCall : ByteArray := prog_12_method_60_code
def yX10_hasCall : MethodName := ⟨RX10, "hasCall", "(II)Z"⟩
abbrev cX10_variablesOf : ByteArray := prog_12_method_62_code
def yX10_variablesOf : MethodName := ⟨RX10, "variablesOf", "(I)V"⟩
abbrev cX10_beginEval : ByteArray := prog_12_method_63_code
def yX10_beginEval : MethodName := ⟨RX10, "beginEval", "(IIIZ)V"⟩
abbrev cX10_numberOf : ByteArray := prog_12_method_64_code
def yX10_numberOf : MethodName := ⟨RX10, "numberOf", "(I)J"⟩
abbrev cX10_truth : ByteArray := prog_12_method_65_code
def yX10_truth : MethodName := ⟨RX10, "truth", "(Z)I"⟩
abbrev cX10_basic : ByteArray := prog_12_method_66_code
def yX10_basic : MethodName := ⟨RX10, "basic", "(II)I"⟩
abbrev cX10_takeValue : ByteArray := prog_12_method_67_code
def yX10_takeValue : MethodName := ⟨RX10, "takeValue", "(Z)V"⟩
abbrev cX10_goOn : ByteArray := prog_12_method_68_code
def yX10_goOn : MethodName := ⟨RX10, "goOn", "(Z)V"⟩
abbrev cX10_evaluated : ByteArray := prog_12_method_69_code
def yX10_evaluated : MethodName := ⟨RX10, "evaluated", "(IZ)I"⟩
abbrev cX10_isNewName : ByteArray := prog_12_method_70_code
def yX10_isNewName : MethodName := ⟨RX10, "isNewName", "(I)Z"⟩
abbrev cX10_definition : ByteArray := prog_12_method_71_code
def yX10_definition : MethodName := ⟨RX10, "definition", "(I)I"⟩
abbrev cX10_areVariables : ByteArray := prog_12_method_72_code
def yX10_areVariables : MethodName := ⟨RX10, "areVariables", "(II)Z"⟩
abbrev cX10_isIn : ByteArray := prog_12_method_73_code
def yX10_isIn : MethodName := ⟨RX10, "isIn", "(II)Z"⟩
abbrev cX10_hasOnly : ByteArray := prog_12_method_74_code
def yX10_hasOnly : MethodName := ⟨RX10, "hasOnly", "(II)Z"⟩
abbrev cX10_tellOut : ByteArray := prog_12_method_75_code
def yX10_tellOut : MethodName := ⟨RX10, "tellOut", "(I)V"⟩
abbrev cX10_toldValue : ByteArray := prog_12_method_76_code
def yX10_toldValue : MethodName := ⟨RX10, "toldValue", "(I)I"⟩
abbrev cX10_eval : ByteArray := prog_12_method_77_code
def yX10_eval : MethodName := ⟨RX10, "eval", "(I)I"⟩
abbrev cX10_with : ByteArray := prog_12_method_78_code
def yX10_with : MethodName := ⟨RX10, "with", "(I)I"⟩
abbrev cX10_map : ByteArray := prog_12_method_79_code
def yX10_map : MethodName := ⟨RX10, "map", "(I)I"⟩
abbrev cX10_defun : ByteArray := prog_12_method_80_code
def yX10_defun : MethodName := ⟨RX10, "defun", "(IZ)I"⟩
abbrev cX10_undo : ByteArray := prog_12_method_81_code
def yX10_undo : MethodName := ⟨RX10, "undo", "(I)I"⟩
abbrev cX10_show : ByteArray := prog_12_method_82_code
def yX10_show : MethodName := ⟨RX10, "show", "(I)I"⟩
abbrev cX10_command : ByteArray := prog_12_method_83_code
def yX10_command : MethodName := ⟨RX10, "command", "(I)I"⟩
abbrev cX10_feed : ByteArray := prog_12_method_84_code
def yX10_feed : MethodName := ⟨RX10, "feed", "(IIIII)V"⟩
abbrev cX10_end : ByteArray := prog_12_method_85_code
def yX10_end : MethodName := ⟨RX10, "end", "(I)I"⟩
abbrev cX10_fuel : ByteArray := prog_12_method_86_code
def yX10_fuel : MethodName := ⟨RX10, "fuel", "(I)I"⟩
abbrev cX10_run : ByteArray := prog_12_method_87_code
def yX10_run : MethodName := ⟨RX10, "run", "()I"⟩
abbrev cX10_fault : ByteArray := prog_12_method_88_code
def yX10_fault : MethodName := ⟨RX10, "fault", "(I)I"⟩
abbrev cX10_steps : ByteArray := prog_12_method_89_code
def yX10_steps : MethodName := ⟨RX10, "steps", "()I"⟩
abbrev cX10_functions : ByteArray := prog_12_method_90_code
def yX10_functions : MethodName := ⟨RX10, "functions", "()I"⟩
abbrev cX10_size : ByteArray := prog_12_method_91_code
def yX10_size : MethodName := ⟨RX10, "size", "()I"⟩
abbrev cX10_letter : ByteArray := prog_12_method_92_code
def yX10_letter : MethodName := ⟨RX10, "letter", "(I)I"⟩
def RJ11 : String := "java/lang/Character"
def TJ11 : u_T := fun k => match k with
  | _ => ("", "", "", false)
def tyJ11 : Nat → FieldType := fun k => match k with
  | _ => .int
abbrev wsJ110 : List Cond := u_ws RJ11 TJ11 0
theorem nmJ11 : ∀ a, a < 0 → ∀ b, b < 0 → a ≠ b → (TJ11 a).2.1 ≠ (TJ11 b).2.1 := by decide +kernel
theorem tyJ11_ok : ∀ k, k < 0 → parseFieldDescriptor (TJ11 k).2.2.1 = some (tyJ11 k) := by decide +kernel
abbrev cJ11_isValidCodePoint_9a6ad : ByteArray := prog_13_method_11_code
def yJ11_isValidCodePoint_9a6ad : MethodName := ⟨RJ11, "isValidCodePoint", "(I)Z"⟩
abbrev cJ11_highSurrogate_5068e : ByteArray := prog_13_method_28_code
def yJ11_highSurrogate_5068e : MethodName := ⟨RJ11, "highSurrogate", "(I)C"⟩
abbrev cJ11_lowSurrogate_5068e : ByteArray := prog_13_method_29_code
def yJ11_lowSurrogate_5068e : MethodName := ⟨RJ11, "lowSurrogate", "(I)C"⟩
def RJx8e188 : String := "java/lang/Cloneable"
def TJx8e188 : u_T := fun k => match k with
  | _ => ("", "", "", false)
def tyJx8e188 : Nat → FieldType := fun k => match k with
  | _ => .int
theorem nmJx8e188 : ∀ a, a < 0 → ∀ b, b < 0 → a ≠ b → (TJx8e188 a).2.1 ≠ (TJx8e188 b).2.1 := by decide +kernel
theorem tyJx8e188_ok : ∀ k, k < 0 → parseFieldDescriptor (TJx8e188 k).2.2.1 = some (tyJx8e188 k) := by decide +kernel
def RJ9 : String := "java/lang/Math"
def TJ9 : u_T := fun k => match k with
  | _ => ("", "", "", false)
def tyJ9 : Nat → FieldType := fun k => match k with
  | _ => .int
abbrev wsJ90 : List Cond := u_ws RJ9 TJ9 0
theorem nmJ9 : ∀ a, a < 0 → ∀ b, b < 0 → a ≠ b → (TJ9 a).2.1 ≠ (TJ9 b).2.1 := by decide +kernel
theorem tyJ9_ok : ∀ k, k < 0 → parseFieldDescriptor (TJ9 k).2.2.1 = some (tyJ9 k) := by decide +kernel
abbrev cJ9_max_7cf53 : ByteArray := prog_15_method_65_code
def yJ9_max_7cf53 : MethodName := ⟨RJ9, "max", "(II)I"⟩
abbrev cJ9_max_f86c9 : ByteArray := prog_15_method_66_code
def yJ9_max_f86c9 : MethodName := ⟨RJ9, "max", "(JJ)J"⟩
abbrev cJ9_min_7cf53 : ByteArray := prog_15_method_69_code
def yJ9_min_7cf53 : MethodName := ⟨RJ9, "min", "(II)I"⟩
def RJ0 : String := "java/lang/String"
def TJ0 : u_T := fun k => match k with
  | _ => ("", "", "", false)
def tyJ0 : Nat → FieldType := fun k => match k with
  | _ => .int
abbrev wsJ00 : List Cond := u_ws RJ0 TJ0 0
theorem nmJ0 : ∀ a, a < 0 → ∀ b, b < 0 → a ≠ b → (TJ0 a).2.1 ≠ (TJ0 b).2.1 := by decide +kernel
theorem tyJ0_ok : ∀ k, k < 0 → parseFieldDescriptor (TJ0 k).2.2.1 = some (tyJ0 k) := by decide +kernel
abbrev cJ0_length_8abf5 : ByteArray := prog_16_method_54_code
def yJ0_length_8abf5 : MethodName := ⟨RJ0, "length", "()I"⟩
abbrev cJ0_charAt_5068e : ByteArray := prog_16_method_56_code
def yJ0_charAt_5068e : MethodName := ⟨RJ0, "charAt", "(I)C"⟩
abbrev cJ0_indexOf_0f7a4 : ByteArray := prog_16_method_79_code
def yJ0_indexOf_0f7a4 : MethodName := ⟨RJ0, "indexOf", "(I)I"⟩
abbrev cJ0_indexOf_7cf53 : ByteArray := prog_16_method_80_code
def yJ0_indexOf_7cf53 : MethodName := ⟨RJ0, "indexOf", "(II)I"⟩
abbrev cJ0_coder_7d493 : ByteArray := prog_16_method_152_code
def yJ0_coder_7d493 : MethodName := ⟨RJ0, "coder", "()B"⟩
abbrev cJ0_isLatin1_aae02 : ByteArray := prog_16_method_154_code
def yJ0_isLatin1_aae02 : MethodName := ⟨RJ0, "isLatin1", "()Z"⟩
abbrev cJ0_checkIndex_df160 : ByteArray := prog_16_method_155_code
def yJ0_checkIndex_df160 : MethodName := ⟨RJ0, "checkIndex", "(II)V"⟩
abbrev cJ0_checkBoundsBeginEnd_23922 : ByteArray := prog_16_method_158_code
def yJ0_checkBoundsBeginEnd_23922 : MethodName := ⟨RJ0, "checkBoundsBeginEnd", "(III)V"⟩
def RJ1 : String := "java/lang/StringLatin1"
def TJ1 : u_T := fun k => match k with
  | _ => ("", "", "", false)
def tyJ1 : Nat → FieldType := fun k => match k with
  | _ => .int
abbrev wsJ10 : List Cond := u_ws RJ1 TJ1 0
theorem nmJ1 : ∀ a, a < 0 → ∀ b, b < 0 → a ≠ b → (TJ1 a).2.1 ≠ (TJ1 b).2.1 := by decide +kernel
theorem tyJ1_ok : ∀ k, k < 0 → parseFieldDescriptor (TJ1 k).2.2.1 = some (tyJ1 k) := by decide +kernel
abbrev cJ1_charAt_3b067 : ByteArray := prog_17_method_2_code
def yJ1_charAt_3b067 : MethodName := ⟨RJ1, "charAt", "([BI)C"⟩
abbrev cJ1_canEncode_9a6ad : ByteArray := prog_17_method_4_code
def yJ1_canEncode_9a6ad : MethodName := ⟨RJ1, "canEncode", "(I)Z"⟩
abbrev cJ1_indexOf_4cfef : ByteArray := prog_17_method_22_code
def yJ1_indexOf_4cfef : MethodName := ⟨RJ1, "indexOf", "([BIII)I"⟩
abbrev cJ1_indexOfChar_4cfef : ByteArray := prog_17_method_23_code
def yJ1_indexOfChar_4cfef : MethodName := ⟨RJ1, "indexOfChar", "([BIII)I"⟩
def RJ2 : String := "java/lang/StringUTF16"
def TJ2 : u_T := fun k => match k with
  | _ => ("", "", "", false)
def tyJ2 : Nat → FieldType := fun k => match k with
  | _ => .int
abbrev wsJ20 : List Cond := u_ws RJ2 TJ2 0
theorem nmJ2 : ∀ a, a < 0 → ∀ b, b < 0 → a ≠ b → (TJ2 a).2.1 ≠ (TJ2 b).2.1 := by decide +kernel
theorem tyJ2_ok : ∀ k, k < 0 → parseFieldDescriptor (TJ2 k).2.2.1 = some (tyJ2 k) := by decide +kernel
abbrev cJ2_getChar_3b067 : ByteArray := prog_18_method_5_code
def yJ2_getChar_3b067 : MethodName := ⟨RJ2, "getChar", "([BI)C"⟩
abbrev cJ2_length_9d52b : ByteArray := prog_18_method_6_code
def yJ2_length_9d52b : MethodName := ⟨RJ2, "length", "([B)I"⟩
abbrev cJ2_indexOf_4cfef : ByteArray := prog_18_method_40_code
def yJ2_indexOf_4cfef : MethodName := ⟨RJ2, "indexOf", "([BIII)I"⟩
abbrev cJ2_indexOfChar_4cfef : ByteArray := prog_18_method_47_code
def yJ2_indexOfChar_4cfef : MethodName := ⟨RJ2, "indexOfChar", "([BIII)I"⟩
abbrev cJ2_indexOfCharUnsafe_4cfef : ByteArray := prog_18_method_48_code
def yJ2_indexOfCharUnsafe_4cfef : MethodName := ⟨RJ2, "indexOfCharUnsafe", "([BIII)I"⟩
abbrev cJ2_indexOfSupplementary_4cfef : ByteArray := prog_18_method_49_code
def yJ2_indexOfSupplementary_4cfef : MethodName := ⟨RJ2, "indexOfSupplementary", "([BIII)I"⟩
abbrev cJ2_charAt_3b067 : ByteArray := prog_18_method_83_code
def yJ2_charAt_3b067 : MethodName := ⟨RJ2, "charAt", "([BI)C"⟩
abbrev cJ2_checkIndex_2214a : ByteArray := prog_18_method_91_code
def yJ2_checkIndex_2214a : MethodName := ⟨RJ2, "checkIndex", "(I[B)V"⟩
abbrev cJ2_checkBoundsBeginEnd_d044e : ByteArray := prog_18_method_93_code
def yJ2_checkBoundsBeginEnd_d044e : MethodName := ⟨RJ2, "checkBoundsBeginEnd", "(II[B)V"⟩
def RJ10 : String := "java/lang/System"
def TJ10 : u_T := fun k => match k with
  | _ => ("", "", "", false)
def tyJ10 : Nat → FieldType := fun k => match k with
  | _ => .int
abbrev wsJ100 : List Cond := u_ws RJ10 TJ10 0
theorem nmJ10 : ∀ a, a < 0 → ∀ b, b < 0 → a ≠ b → (TJ10 a).2.1 ≠ (TJ10 b).2.1 := by decide +kernel
theorem tyJ10_ok : ∀ k, k < 0 → parseFieldDescriptor (TJ10 k).2.2.1 = some (tyJ10 k) := by decide +kernel
def RJ7 : String := "java/util/Arrays"
def TJ7 : u_T := fun k => match k with
  | _ => ("", "", "", false)
def tyJ7 : Nat → FieldType := fun k => match k with
  | _ => .int
abbrev wsJ70 : List Cond := u_ws RJ7 TJ7 0
theorem nmJ7 : ∀ a, a < 0 → ∀ b, b < 0 → a ≠ b → (TJ7 a).2.1 ≠ (TJ7 b).2.1 := by decide +kernel
theorem tyJ7_ok : ∀ k, k < 0 → parseFieldDescriptor (TJ7 k).2.2.1 = some (tyJ7 k) := by decide +kernel
abbrev cJ7_fill_53178 : ByteArray := prog_20_method_103_code
def yJ7_fill_53178 : MethodName := ⟨RJ7, "fill", "([II)V"⟩
abbrev cJ7_copyOf_59c91 : ByteArray := prog_20_method_123_code
def yJ7_copyOf_59c91 : MethodName := ⟨RJ7, "copyOf", "([II)[I"⟩
abbrev cJ7_copyOf_c38d5 : ByteArray := prog_20_method_124_code
def yJ7_copyOf_c38d5 : MethodName := ⟨RJ7, "copyOf", "([JI)[J"⟩
def RJ3 : String := "jdk/internal/util/Preconditions"
def TJ3 : u_T := fun k => match k with
  | _ => ("", "", "", false)
def tyJ3 : Nat → FieldType := fun k => match k with
  | _ => .int
abbrev wsJ30 : List Cond := u_ws RJ3 TJ3 0
theorem nmJ3 : ∀ a, a < 0 → ∀ b, b < 0 → a ≠ b → (TJ3 a).2.1 ≠ (TJ3 b).2.1 := by decide +kernel
theorem tyJ3_ok : ∀ k, k < 0 → parseFieldDescriptor (TJ3 k).2.2.1 = some (tyJ3 k) := by decide +kernel
abbrev cJ3_checkIndex_8e157 : ByteArray := prog_21_method_11_code
def yJ3_checkIndex_8e157 : MethodName := ⟨RJ3, "checkIndex", "(IILjava/util/function/BiFunction;)I"⟩
abbrev cJ3_checkFromToIndex_8c36e : ByteArray := prog_21_method_12_code
def yJ3_checkFromToIndex_8c36e : MethodName := ⟨RJ3, "checkFromToIndex", "(IIILjava/util/function/BiFunction;)I"⟩
def RL : String := "LispMachineLaw"
abbrev cL_law : ByteArray := code
def yL_law : MethodName := ⟨RL, "law", "([I)Z"⟩
abbrev vwCl : List vw_C := [(RX0, TX0, 7), (RX1, TX1, 6), (RX2, TX2, 4), (RX3, TX3, 12), (RX4, TX4, 2), (RX5, TX5, 14), (RX6, TX6, 6), (RX7, TX7, 5), (RX8, TX8, 4), (RX9, TX9, 7), (RX10, TX10, 70)]
end
section
/-! NUMBERS: an int is the wrapping of an integer, a long too -/
abbrev iZ (z : Int) : Int32 := Int32.ofInt z
abbrev lZ (z : Int) : Int64 := Int64.ofInt z
abbrev inI (z : Int) : Prop := -2147483648 ≤ z ∧ z < 2147483648
abbrev inL (z : Int) : Prop := -9223372036854775808 ≤ z ∧ z < 9223372036854775808
theorem iz_toInt {z : Int} (h : inI z) : (iZ z).toInt = z := Int32.toInt_ofInt_of_le (by omega) (by omega)
theorem lz_toInt {z : Int} (h : inL z) : (lZ z).toInt = z := Int64.toInt_ofInt_of_le (by omega) (by omega)
theorem iz_of (x : Int32) : ∃ z : Int, inI z ∧ x = iZ z := ⟨x.toInt, ⟨by have := x.le_toInt; omega, by have := x.toInt_lt; omega⟩, (Int32.ofInt_toInt x).symm⟩
theorem lz_of (x : Int64) : ∃ z : Int, inL z ∧ x = lZ z := ⟨x.toInt, ⟨by have := x.le_toInt; omega, by have := x.toInt_lt; omega⟩, (Int64.ofInt_toInt x).symm⟩
theorem iz_eq {a b : Int} (ha : inI a) (hb : inI b) : iZ a = iZ b ↔ a = b := by
  rw [← Int32.toInt_inj, iz_toInt ha, iz_toInt hb]
theorem iz_lt {a b : Int} (ha : inI a) (hb : inI b) : iZ a < iZ b ↔ a < b := by
  rw [Int32.lt_iff_toInt_lt, iz_toInt ha, iz_toInt hb]
theorem iz_le {a b : Int} (ha : inI a) (hb : inI b) : iZ a ≤ iZ b ↔ a ≤ b := by
  rw [Int32.le_iff_toInt_le, iz_toInt ha, iz_toInt hb]
theorem lz_eq {a b : Int} (ha : inL a) (hb : inL b) : lZ a = lZ b ↔ a = b := by
  rw [← Int64.toInt_inj, lz_toInt ha, lz_toInt hb]
theorem lz_lt {a b : Int} (ha : inL a) (hb : inL b) : lZ a < lZ b ↔ a < b := by
  rw [Int64.lt_iff_toInt_lt, lz_toInt ha, lz_toInt hb]
theorem lz_le {a b : Int} (ha : inL a) (hb : inL b) : lZ a ≤ lZ b ↔ a ≤ b := by
  rw [Int64.le_iff_toInt_le, lz_toInt ha, lz_toInt hb]
theorem iz_add (a b : Int) : iZ a + iZ b = iZ (a + b) := by first | exact (Int32.ofInt_add a b).symm | simp [Int32.ofInt_add]
theorem iz_sub (a b : Int) : iZ a - iZ b = iZ (a - b) := by first | exact (Int32.ofInt_sub a b).symm | simp [Int32.ofInt_sub]
theorem iz_mul (a b : Int) : iZ a * iZ b = iZ (a * b) := by first | exact (Int32.ofInt_mul a b).symm | simp [Int32.ofInt_mul]
theorem lz_add (a b : Int) : lZ a + lZ b = lZ (a + b) := by first | exact (Int64.ofInt_add a b).symm | simp [Int64.ofInt_add]
theorem lz_sub (a b : Int) : lZ a - lZ b = lZ (a - b) := by first | exact (Int64.ofInt_sub a b).symm | simp [Int64.ofInt_sub]
theorem lz_mul (a b : Int) : lZ a * lZ b = lZ (a * b) := by first | exact (Int64.ofInt_mul a b).symm | simp [Int64.ofInt_mul]
theorem iz_clamp {z : Int} (h : inI z) : (iZ z).toNatClampNeg = z.toNat := by
  rw [← Int32.toNat_toInt, iz_toInt h]
theorem iz_in {z : Int} {n : Nat} (h0 : 0 ≤ z) (h1 : z < n) (h2 : z < 2147483648) : vp_in (iZ z) n := by
  rw [vp_in_iff, iz_toInt ⟨by omega, h2⟩]
  exact ⟨h0, h1⟩
theorem iz_i2l {z : Int} (h : inI z) : (iZ z).toInt64 = lZ z := by
  apply Int64.toInt_inj.mp
  rw [Int32.toInt_toInt64, iz_toInt h, lz_toInt ⟨by omega, by omega⟩]
theorem iz_l2i (z : Int) : (lZ z).toInt32 = iZ z := by
  apply Int32.toInt_inj.mp
  first | (simp [Int64.toInt_toInt32]; done) | (rw [Int64.toInt_toInt32]; simp; omega)
def b2i (b : Bool) : Int := if b then 1 else 0
theorem b2i_in (b : Bool) : inI (b2i b) := by cases b <;> decide
theorem b2i_nar (b : Bool) : narrow .boolean (.int (iZ (b2i b))) = .int (iZ (b2i b)) := by cases b <;> decide +kernel
theorem b2i_fit (b : Bool) : fits .boolean (.int (iZ (b2i b))) = true := by cases b <;> decide +kernel
/-! TABLES -/
def pw_nest : Cond → Bool
  | .fieldLinkNest .. => true
  | .methodLinkNest .. => true
  | _ => false
def pw_T : List Cond := lw_tbl.filter goodWord
def pw_N : List Cond := lw_tbl.filter pw_nest
theorem pw_in {w : Cond} (h : w ∈ lw_tbl) (g : goodWord w = true) : w ∈ pw_T := List.mem_filter.mpr ⟨h, g⟩
theorem pw_inN {w : Cond} (h : w ∈ lw_tbl) (g : pw_nest w = true) : w ∈ pw_N := List.mem_filter.mpr ⟨h, g⟩
theorem pw_good {w : Cond} (h : w ∈ pw_T) : (w.onTables && w.keeps) = true ∨ ∃ ty, w = .arrayClass ty := good_of_word (List.mem_filter.mp h).2
theorem pw_goodIn {c0 c1 : Cond} (h : c1 ∈ pw_T) : GoodIn (c0 :: pw_T) (c1 :: pw_T) := by
  intro w hw
  rcases List.mem_cons.mp hw with rfl | hw
  · exact ⟨List.mem_cons_of_mem _ h, pw_good h⟩
  · exact ⟨List.mem_cons_of_mem _ hw, pw_good hw⟩
/-! WORLDS by places: a place's address and what lies there -/
abbrev pw_W : Type := Nat → Nat × Option va_E
/-- the classes' numbers, the array classes, the base, the addresses of the constants -/
abbrev pw_P : Type := va_G × (Nat → ClassId) × Nat × (Nat → Nat)
abbrev pw_B (g : pw_P) : Nat := g.2.2.1
abbrev pw_A (g : pw_P) : Nat → Prop := fun q => g.2.2.1 ≤ q
def pw_tys (k : Nat → ClassId) : List (ClassId × FieldType) := [(k 0, .int), (k 1, .long), (k 2, .char), (k 3, .boolean), (k 4, .object "LispMachine$Definition"), (k 5, .object "LispMachine$Call")]
def pw_K (g : pw_P) (U : State) : Prop := va_K g.1 vwCl (pw_tys g.2.1) U
def AI (g : pw_P) (n : Nat) (f : Nat → Int) : va_E := .inl (g.2.1 0, n, .inl (fun j => iZ (f j)))
def AJ (g : pw_P) (n : Nat) (f : Nat → Int) : va_E := .inl (g.2.1 1, n, .inr (.inl (fun j => lZ (f j))))
def AC (g : pw_P) (n : Nat) (f : Nat → Int) : va_E := .inl (g.2.1 2, n, .inl (fun j => iZ (f j)))
def AZ (g : pw_P) (n : Nat) (f : Nat → Int) : va_E := .inl (g.2.1 3, n, .inl (fun j => iZ (f j)))
def AR (g : pw_P) (t n : Nat) (f : Nat → Option Nat) : va_E := .inl (g.2.1 t, n, .inr (.inr (.inr (.inr f))))
abbrev OB (ci : Nat) (fs : List Value) : va_E := .inr (ci, fs)
def pw_H (g : pw_P) (w : pw_W) (H : Heap) : Prop :=
  (∀ (k a : Nat) (e : va_E), w k = (a, some e) → va_at g.1 vwCl (a, e) H ∧ pw_B g ≤ a) ∧ ∀ (j k a : Nat) (e e' : va_E), w j = (a, some e) → w k = (a, some e') → j = k
theorem pw_H.put {g : pw_P} {w : pw_W} {H H1 : Heap} {k a : Nat} {e0 e : va_E} (h : pw_H g w H) (hk : w k = (a, some e0)) (he : va_at g.1 vwCl (a, e) H1) (oq : ∀ q : Nat, q ≠ a → H1[q]? = H[q]?) : pw_H g (va_up w k (a, some e)) H1 := by
  refine ⟨fun j b f hj => ?_, fun i j b f f' hi hj => ?_⟩
  · by_cases hjk : j = k
    · subst hjk
      rw [va_up_self] at hj
      cases hj
      exact ⟨he, (h.1 _ _ _ hk).2⟩
    · rw [va_up_ne _ _ hjk] at hj
      have h1 := h.1 j b f hj
      refine ⟨h1.1.kept (oq b fun hb => ?_), h1.2⟩
      subst hb
      exact hjk (h.2 _ _ _ _ _ hj hk)
  · by_cases hik : i = k
    · subst hik
      by_cases hjk : j = i
      · exact hjk.symm
      · rw [va_up_self] at hi
        rw [va_up_ne _ _ hjk] at hj
        cases hi
        exact absurd (h.2 _ _ _ _ _ hj hk) hjk
    · rw [va_up_ne _ _ hik] at hi
      by_cases hjk : j = k
      · subst hjk
        rw [va_up_self] at hj
        cases hj
        exact absurd (h.2 _ _ _ _ _ hi hk) hik
      · rw [va_up_ne _ _ hjk] at hj
        exact h.2 _ _ _ _ _ hi hj
theorem pw_H.new {g : pw_P} {w : pw_W} {H H1 : Heap} {e : va_E} (h : pw_H g w H) (oq : ∀ q : Nat, q < H.size → H1[q]? = H[q]?) (he : va_at g.1 vwCl (H.size, e) H1) (hB : pw_B g ≤ H.size) (k : Nat) : pw_H g (va_up w k (H.size, some e)) H1 := by
  refine ⟨fun j b f hj => ?_, fun i j b f f' hi hj => ?_⟩
  · by_cases hjk : j = k
    · subst hjk
      rw [va_up_self] at hj
      cases hj
      exact ⟨he, hB⟩
    · rw [va_up_ne _ _ hjk] at hj
      have h1 := h.1 j b f hj
      exact ⟨h1.1.kept (oq b h1.1.lt), h1.2⟩
  · by_cases hik : i = k
    · subst hik
      by_cases hjk : j = i
      · exact hjk.symm
      · rw [va_up_self] at hi
        rw [va_up_ne _ _ hjk] at hj
        cases hi
        have h1 := (h.1 _ _ _ hj).1.lt
        exact absurd h1 (Nat.lt_irrefl _)
    · rw [va_up_ne _ _ hik] at hi
      by_cases hjk : j = k
      · subst hjk
        rw [va_up_self] at hj
        cases hj
        have h1 := (h.1 _ _ _ hi).1.lt
        exact absurd h1 (Nat.lt_irrefl _)
      · rw [va_up_ne _ _ hjk] at hj
        exact h.2 _ _ _ _ _ hi hj
theorem pw_H.one {g : pw_P} {w : pw_W} {H : Heap} (h : pw_H g w H) {k a : Nat} {e : va_E} (hk : w k = (a, some e)) : va_P g.1 vwCl [(a, e)] H := by
  intro i q hq
  cases i with
  | zero => cases hq; exact (h.1 k a e hk).1
  | succ i => cases hq
end
section
/-! THE CONSTANTS: two texts, a table, a flag; they lie below the base -/
def pw_s0 : List Int32 := [110, 105, 108, 32, 116, 32, 113, 117, 111, 116, 101, 32, 105, 102, 32, 101, 113, 117, 97, 108, 32, 99, 111, 110, 115, 32, 105, 109, 112, 108, 105, 101, 115, 32, 43, 32, 45, 32, 60, 32, 99, 111, 110, 115, 112, 32, 99, 97, 114, 32, 99, 100, 114, 32, 110, 97, 116, 112, 32, 115, 121, 109, 98, 111, 108, 112, 32, 104, 101, 105, 103, 104, 116, 32, 110, 111, 116, 32, 101, 118, 97, 108, 32, 119, 105, 116, 104, 32, 109, 97, 112, 32, 100, 101, 102, 117, 110, 32, 114, 101, 100, 111, 32, 117, 110, 100, 111, 32, 115, 104, 111, 119, 32]
def pw_s1 : List Int32 := [32, 97, 98, 99, 100, 101, 102, 103, 104, 105, 106, 107, 108, 109, 110, 111, 112, 113, 114, 115, 116, 117, 118, 119, 120, 121, 122, 48, 49, 50, 51, 52, 53, 54, 55, 56, 57, 43, 45, 42, 47, 60, 62, 61, 63, 33, 95]
def pw_len : List Nat := [113, 47]
def pw_byt : List (List Int32) := [pw_s0, pw_s1]
def pw_t0 : String := "nil t quote if equal cons implies + - < consp car cdr natp symbolp height not eval with map defun redo undo show "
def pw_t1 : String := " abcdefghijklmnopqrstuvwxyz0123456789+-*/<>=?!_"
def pw_bt (j : Nat) : Int := ([-1, -1, -1, 3, 2, 2, 2, 2, 2, 2, 1, 1, 1, 1, 1, 1, 1] : List Int).getD j 0
/-- what is said of the constants: at 0, 1 the texts, at 2, 3 their bytes, at 4 the table -/
def pw_F (g : pw_P) (U : State) (H : Heap) : Prop :=
  (∀ w ∈ pw_N, va_Nw w U) ∧ vk_S 2 pw_len pw_byt (fun i => g.2.2.2 i) (fun i => g.2.2.2 (2 + i)) (pw_A g) U H ∧ (vk_R "LispMachine$Store" 34 pw_t0 (g.2.2.2 0) U ∧ vk_R "LispMachine$Store" 42 pw_t1 (g.2.2.2 1) U ∧ vk_R "LispMachine$Reader" 76 pw_t1 (g.2.2.2 1) U ∧ vk_R "LispMachine$Teller" 92 pw_t1 (g.2.2.2 1) U) ∧
  va_Z "java/lang/String" "COMPACT_STRINGS" "Z" (.int 1) (pw_A g) U H ∧ va_Z "LispMachine" "BASE_TAKES" "[I" (.ref (g.2.2.2 4)) (pw_A g) U H ∧ va_T .int (g.2.2.2 4) 17 (fun j => .int (iZ (pw_bt j))) (pw_A g) U H
theorem pw_nw_warm {s U : State} (hW : s.WarmedH U.vm) {w : Cond} (hw : w ∈ pw_N) (h : va_Nw w s) : va_Nw w U := by
  have hn := (List.mem_filter.mp hw).2
  cases w <;> first | exact va_Nw.warmF hW h | exact va_Nw.warmM hW h | exact Bool.noConfusion hn
theorem pw_nw_same {s U : State} (hv : s.vm = U.vm) {w : Cond} (hw : w ∈ pw_N) (h : va_Nw w s) : va_Nw w U := by
  have hn := (List.mem_filter.mp hw).2
  cases w <;> first | exact va_Nw.same rfl hv h | exact Bool.noConfusion hn
theorem pw_F.go {g : pw_P} {s U : State} {H : Heap} {locs : List Loc} (h : pw_F g s s.heap) (hW : s.WarmedH U.vm) (hS : va_S (pw_A g) s.heap H locs) : pw_F g U H := by
  obtain ⟨h1, h2, ⟨h3, h4, h5, h6⟩, h7, h8, h9⟩ := h
  exact ⟨fun w hw => pw_nw_warm hW hw (h1 w hw), vk_S.moved hW.alike (h2.kept hS.2.1), ⟨h3.warm hW, h4.warm hW, h5.warm hW, h6.warm hW⟩, va_Z.moved hW.alike (h7.kept hS.2.1), va_Z.moved hW.alike (h8.kept hS.2.1), va_T.moved hW.alike (h9.kept hS.2.1)⟩
theorem pw_F.blind {g : pw_P} {U : State} (fr : JFrame) (mk : MethodId) (a : Array Value) (h : pw_F g U U.heap) : pw_F g (U.calling fr mk a) (U.calling fr mk a).heap := by
  obtain ⟨h1, h2, ⟨h3, h4, h5, h6⟩, h7, h8, h9⟩ := h
  have hA : U.vm.Alike (U.calling fr mk a).vm := Vm.Alike.refl U.vm
  exact ⟨fun w hw => pw_nw_same (s := U) (U := U.calling fr mk a) rfl hw (h1 w hw), vk_S.moved hA h2, ⟨vk_R.same (u := U) (U := U.calling fr mk a) rfl h3, vk_R.same (u := U) (U := U.calling fr mk a) rfl h4, vk_R.same (u := U) (U := U.calling fr mk a) rfl h5, vk_R.same (u := U) (U := U.calling fr mk a) rfl h6⟩, va_Z.moved hA h7, va_Z.moved hA h8, va_T.moved hA h9⟩
/-- what a method's start asks: the world, the tables, the constants -/
def pw_Pc (g : pw_P) (av : List Value) (w : pw_W) : Array Value → State → Prop := va_Pc av (fun U => pw_B g ≤ U.heap.size ∧ pw_H g w U.heap ∧ pw_K g U ∧ pw_F g U U.heap)
def pw_Qc (g : pw_P) (post : Option Value → pw_W → Prop) : Array Value → State → Outcome → State → Prop := fun _ st oc t => (∃ (r : Option Value) (w : pw_W), oc = .returned r ∧ post r w ∧ pw_H g w t.heap) ∧ va_F (pw_A g) st t
/-- A CONTRACT: from the world w with these arguments the method returns r with world w', post r w' -/
def pw_M (g : pw_P) (l : Launch) (y : MethodName) (cc : ByteArray) (nL : Nat) (ret : Option FieldType) (rm : Room) (av : List Value) (w : pw_W) (post : Option Value → pw_W → Prop) : Prop :=
  Met l y (.code y cc nL ret :: pw_T) rm (pw_Pc g av w) (pw_Qc g post) rm.cells rm.slots (pw_A g)
theorem pw_blind {g : pw_P} {av : List Value} {w : pw_W} : FrameBlind (pw_Pc g av w) := by
  intro a U fr mk h
  obtain ⟨h1, h2, h3, h4, h5⟩ := h
  exact ⟨h1, h2, h3, va_K.moved (u := U) (U := U.calling fr mk a) (Vm.Alike.refl U.vm) h4, pw_F.blind fr mk a h5⟩
/-- what stays through a method's walk -/
def pw_C (g : pw_P) (p : Program) (s : State) (m : MethodId) (args : Array Value) (meth : Method) (c : Code) (cc : ByteArray) (nL : Nat) (own : String) : Prop :=
  p.tables.exec = Jvm.exec ∧ c.code = cc ∧ c.maxLocals = nL ∧ s.vm.findClass own = some m.cls ∧ (∀ w ∈ pw_T, w.before args s = true) ∧ meth.locks = false ∧ pw_B g ≤ s.heap.size ∧ pw_K g s ∧ pw_F g s s.heap
/-- THE WALK: at pc, with these locals, this stack, this world -/
def pw_G (g : pw_P) (p : Program) (l : Launch) (e : Env) (R : Room) (s : State) (m : MethodId) (args : Array Value) (below : List Frame) (meth : Method) (c : Code) (nL : Nat) (Q : State → Prop) (cells slots pc : Nat) (lv : List (Nat × Value)) (st : List Value) (w : pw_W) : Prop :=
  ∀ (ls : Array Slot) (H : Heap) (locs : List Loc), lv_has ls nL lv → pw_H g w H → va_S (pw_A g) s.heap H locs → W p l e R s m args below meth c H locs cells slots Q (F0 m pc ls st)
abbrev pw_Q (g : pw_P) (below : List Frame) (post : Option Value → pw_W → Prop) (args : Array Value) (s : State) (rm : Room) : State → Prop := MQ below (pw_Qc g post) args s rm.cells rm.slots (pw_A g)
/-- a contract out of the walk from the entry -/
theorem pw_M.of {g : pw_P} {l : Launch} {y : MethodName} {cc : ByteArray} {nL : Nat} {ret : Option FieldType} {rm : Room} {av : List Value} {w : pw_W} {post : Option Value → pw_W → Prop} {lv : List (Nat × Value)} (hy : plainName y.cls = true) (hav : (lg_sl av).length ≤ nL) (hlv : lv_args 0 av = lv)
    (body : ∀ (p : Program) (e : Env) (s : State) (m : MethodId) (args : Array Value) (below : List Frame) (meth : Method) (c : Code), pw_C g p s m args meth c cc nL y.cls → meth.sig.returnType = ret → meth.name = y.name → pw_G g p l e rm s m args below meth c nL (pw_Q g below post args s rm) 0 0 0 lv [] w) : pw_M g l y cc nL ret rm av w post := by
  refine Met.ofW (cc := cc) (maxL := nL) (ret := ret) hy rfl ?_
  intro p e s m args below meth c s₁ B hml hv
  obtain ⟨rfl, hB, hH, hK, hF⟩ := hv
  have hts := atoms_spec (ws := Cond.code y cc nL ret :: pw_T) B.pre
  have hown : s.vm.findClass y.cls = some m.cls := findClass_of_methodNamed B.named
  have h0 := body p e s m av.toArray below meth c ⟨B.exec, B.bytes, hml, hown, fun w hw => hts w (List.mem_cons_of_mem _ hw), B.notSynchronized, hB, hK, hF⟩ B.returns (name_of_methodNamed B.named B.method).1
  have hl := lv_entry av (n := nL) hav
  rw [hlv] at hl
  rw [lg_entry_eq]
  exact h0 _ s.heap [] hl hH va_S.rf
end
section
/-! LOCALS: read and set by their numbers, in order -/
def pl_g (lv : List (Nat × Value)) (i : Nat) : Option Value := (lv.find? (fun q => q.1 == i)).map (fun q => q.2)
theorem pl_get {ls : Array Slot} {nL : Nat} {lv : List (Nat × Value)} {i : Nat} {v : Value} (h : lv_has ls nL lv) (hg : pl_g lv i = some v) : ls[i]? = some (.val v) := by
  unfold pl_g at hg
  cases hf : lv.find? (fun q => q.1 == i) with
  | none => rw [hf] at hg; cases hg
  | some q =>
    rw [hf] at hg
    have h1 := List.mem_of_find?_eq_some hf
    have h2 := List.find?_some hf
    have h3 : q.1 = i := by simpa using h2
    have h4 : q.2 = v := Option.some.inj hg
    rw [← h3, ← h4]
    exact h.2.2 q h1
def pl_i (i : Nat) (v : Value) : List (Nat × Value) → List (Nat × Value)
  | [] => [(i, v)]
  | q :: r => if q.1 < i then q :: pl_i i v r else (i, v) :: q :: r
theorem pl_i_mem {i : Nat} {v : Value} : ∀ (l : List (Nat × Value)) (q : Nat × Value), q ∈ pl_i i v l → q = (i, v) ∨ q ∈ l
  | [], q, h => by
    rw [pl_i] at h
    exact Or.inl (List.mem_singleton.mp h)
  | x :: r, q, h => by
    rw [pl_i] at h
    split at h
    · rcases List.mem_cons.mp h with h | h
      · exact Or.inr (by rw [h]; exact List.mem_cons_self)
      · rcases pl_i_mem r q h with h | h
        · exact Or.inl h
        · exact Or.inr (List.mem_cons_of_mem _ h)
    · rcases List.mem_cons.mp h with h | h
      · exact Or.inl h
      · exact Or.inr h
def pl_1 (lv : List (Nat × Value)) (i : Nat) (v : Value) : List (Nat × Value) := pl_i i v (lv.filter (fun q => !(q.1 == i) && !(q.1 + 1 == i && q.2.category == 2)))
def pl_2 (lv : List (Nat × Value)) (i : Nat) (v : Value) : List (Nat × Value) := pl_i i v (lv.filter (fun q => !(q.1 == i) && (!(q.1 == i + 1) && !(q.1 + 1 == i && q.2.category == 2))))
theorem pl_has {ls : Array Slot} {nL i : Nat} {v : Value} {l l' : List (Nat × Value)} (h : lv_has ls nL ((i, v) :: l)) (hl : pl_i i v l = l') : lv_has ls nL l' := by
  subst hl
  refine ⟨h.1, h.2.1, fun q hq => h.2.2 q ?_⟩
  rcases pl_i_mem _ q hq with h | h
  · rw [h]; exact List.mem_cons_self
  · exact List.mem_cons_of_mem _ h
theorem iz_0 : iZ 0 = 0 := by decide
theorem lz_0 : lZ 0 = 0 := by decide
def cmpZ (a b : Int) : Int := if b < a then 1 else if a = b then 0 else -1
theorem cmpZ_in (a b : Int) : inI (cmpZ a b) := by unfold cmpZ; split <;> (try split) <;> decide
theorem cmpZ_lt (a b : Int) : cmpZ a b < 0 ↔ a < b := by unfold cmpZ; split <;> (try split) <;> constructor <;> intro h <;> omega
theorem cmpZ_le (a b : Int) : cmpZ a b ≤ 0 ↔ a ≤ b := by unfold cmpZ; split <;> (try split) <;> constructor <;> intro h <;> omega
theorem cmpZ_eq (a b : Int) : cmpZ a b = 0 ↔ a = b := by unfold cmpZ; split <;> (try split) <;> constructor <;> intro h <;> omega
theorem cmpZ_of {a b : Int} (ha : inL a) (hb : inL b) : lg_cmp (lZ a) (lZ b) = iZ (cmpZ a b) := by
  unfold lg_cmp cmpZ
  simp only [gt_iff_lt, lz_lt hb ha, lz_eq ha hb]
  split <;> (try split) <;> decide
section
variable {g : pw_P} {p : Program} {l : Launch} {e : Env} {R : Room} {s : State} {m : MethodId} {args : Array Value} {below : List Frame} {meth : Method} {c : Code} {cc : ByteArray} {nL : Nat} {own : String} {Q : State → Prop} {cells slots pc : Nat} {lv : List (Nat × Value)} {st : List Value} {w : pw_W}
theorem pw_iconst (C : pw_C g p s m args meth c cc nL own) {n : Int} (hd : decode cc pc = .ok (.iconst n, 1))
    (k : pw_G g p l e R s m args below meth c nL Q cells slots (pc + 1) lv (.int (iZ n) :: st) w) : pw_G g p l e R s m args below meth c nL Q cells slots pc lv st w :=
  fun ls H locs hl hH hS => lv_iconst C.1 C.2.1 hd rfl (k ls H locs hl hH hS)
theorem pw_bipush (C : pw_C g p s m args meth c cc nL own) {n : Int} (hd : decode cc pc = .ok (.bipush n, 2)) (hv : (Int8.ofInt n).toInt32 = iZ n)
    (k : pw_G g p l e R s m args below meth c nL Q cells slots (pc + 2) lv (.int (iZ n) :: st) w) : pw_G g p l e R s m args below meth c nL Q cells slots pc lv st w :=
  fun ls H locs hl hH hS => lv_bipush C.1 C.2.1 hd hv (k ls H locs hl hH hS)
theorem pw_sipush (C : pw_C g p s m args meth c cc nL own) {n : Int} (hd : decode cc pc = .ok (.sipush n, 3)) (hv : (Int16.ofInt n).toInt32 = iZ n)
    (k : pw_G g p l e R s m args below meth c nL Q cells slots (pc + 3) lv (.int (iZ n) :: st) w) : pw_G g p l e R s m args below meth c nL Q cells slots pc lv st w :=
  fun ls H locs hl hH hS => lv_sipush C.1 C.2.1 hd hv (k ls H locs hl hH hS)
theorem pw_lconst (C : pw_C g p s m args meth c cc nL own) {n : Fin 2} {z : Int} (hd : decode cc pc = .ok (.lconst n, 1)) (hv : Int64.ofNat (n : Nat) = lZ z)
    (k : pw_G g p l e R s m args below meth c nL Q cells slots (pc + 1) lv (.long (lZ z) :: st) w) : pw_G g p l e R s m args below meth c nL Q cells slots pc lv st w :=
  fun ls H locs hl hH hS => lv_lconst C.1 C.2.1 hd hv (k ls H locs hl hH hS)
theorem pw_ldc (C : pw_C g p s m args meth c cc nL own) {idx : Nat} {x : Int32} {z : Int} (hc : Cond.constant own idx x ∈ pw_T) (hv : x = iZ z) (hd : decode cc pc = .ok (.ldc idx, 2))
    (k : pw_G g p l e R s m args below meth c nL Q cells slots (pc + 2) lv (.int (iZ z) :: st) w) : pw_G g p l e R s m args below meth c nL Q cells slots pc lv st w :=
  fun ls H locs hl hH hS => lv_ldc C.1 C.2.1 C.2.2.2.1 (C.2.2.2.2.1 _ hc) hd (by rw [hv]; exact k ls H locs hl hH hS)
theorem pw_ldc2 (C : pw_C g p s m args meth c cc nL own) {idx : Nat} {x : Int64} {z : Int} (hc : Cond.constantLong own idx x ∈ pw_T) (hv : x = lZ z) (hd : decode cc pc = .ok (.ldc2_w idx, 3))
    (k : pw_G g p l e R s m args below meth c nL Q cells slots (pc + 3) lv (.long (lZ z) :: st) w) : pw_G g p l e R s m args below meth c nL Q cells slots pc lv st w :=
  fun ls H locs hl hH hS => lv_ldc2 C.1 C.2.1 C.2.2.2.1 (C.2.2.2.2.1 _ hc) hd (by rw [hv]; exact k ls H locs hl hH hS)
theorem pw_iload_n (C : pw_C g p s m args meth c cc nL own) {j : Fin 4} {i : Nat} {x : Int32} (hd : decode cc pc = .ok (.iload_n j, 1)) (hi : (j : Nat) = i) (hg : pl_g lv i = some (.int x))
    (k : pw_G g p l e R s m args below meth c nL Q cells slots (pc + 1) lv (.int x :: st) w) : pw_G g p l e R s m args below meth c nL Q cells slots pc lv st w :=
  fun ls H locs hl hH hS => lv_iload_n C.1 C.2.1 hd hi (pl_get hl hg) (k ls H locs hl hH hS)
theorem pw_iload (C : pw_C g p s m args meth c cc nL own) {i : Nat} {x : Int32} (hd : decode cc pc = .ok (.iload i, 2)) (hg : pl_g lv i = some (.int x))
    (k : pw_G g p l e R s m args below meth c nL Q cells slots (pc + 2) lv (.int x :: st) w) : pw_G g p l e R s m args below meth c nL Q cells slots pc lv st w :=
  fun ls H locs hl hH hS => lv_iload C.1 C.2.1 hd (pl_get hl hg) (k ls H locs hl hH hS)
theorem pw_lload_n (C : pw_C g p s m args meth c cc nL own) {j : Fin 4} {i : Nat} {x : Int64} (hd : decode cc pc = .ok (.lload_n j, 1)) (hi : (j : Nat) = i) (hg : pl_g lv i = some (.long x))
    (k : pw_G g p l e R s m args below meth c nL Q cells slots (pc + 1) lv (.long x :: st) w) : pw_G g p l e R s m args below meth c nL Q cells slots pc lv st w :=
  fun ls H locs hl hH hS => lv_lload_n C.1 C.2.1 hd hi (pl_get hl hg) (k ls H locs hl hH hS)
theorem pw_lload (C : pw_C g p s m args meth c cc nL own) {i : Nat} {x : Int64} (hd : decode cc pc = .ok (.lload i, 2)) (hg : pl_g lv i = some (.long x))
    (k : pw_G g p l e R s m args below meth c nL Q cells slots (pc + 2) lv (.long x :: st) w) : pw_G g p l e R s m args below meth c nL Q cells slots pc lv st w :=
  fun ls H locs hl hH hS => lv_lload C.1 C.2.1 hd (pl_get hl hg) (k ls H locs hl hH hS)
theorem pw_aload_n (C : pw_C g p s m args meth c cc nL own) {j : Fin 4} {i : Nat} {v : Value} (hd : decode cc pc = .ok (.aload_n j, 1)) (hi : (j : Nat) = i) (hg : pl_g lv i = some v) (hv : v = .null ∨ ∃ a, v = .ref a)
    (k : pw_G g p l e R s m args below meth c nL Q cells slots (pc + 1) lv (v :: st) w) : pw_G g p l e R s m args below meth c nL Q cells slots pc lv st w := by
  intro ls H locs hl hH hS
  rcases hv with rfl | ⟨a, rfl⟩
  · exact lv_aload_nN C.1 C.2.1 hd hi (pl_get hl hg) (k ls H locs hl hH hS)
  · exact lv_aload_n C.1 C.2.1 hd hi (pl_get hl hg) (k ls H locs hl hH hS)
theorem pw_aload (C : pw_C g p s m args meth c cc nL own) {i : Nat} {v : Value} (hd : decode cc pc = .ok (.aload i, 2)) (hg : pl_g lv i = some v) (hv : v = .null ∨ ∃ a, v = .ref a)
    (k : pw_G g p l e R s m args below meth c nL Q cells slots (pc + 2) lv (v :: st) w) : pw_G g p l e R s m args below meth c nL Q cells slots pc lv st w := by
  intro ls H locs hl hH hS
  rcases hv with rfl | ⟨a, rfl⟩
  · exact lv_aloadN C.1 C.2.1 hd (pl_get hl hg) (k ls H locs hl hH hS)
  · exact lv_aload C.1 C.2.1 hd (pl_get hl hg) (k ls H locs hl hH hS)
theorem pw_istore_n (C : pw_C g p s m args meth c cc nL own) {j : Fin 4} {i : Nat} {x : Int32} {lv' : List (Nat × Value)} (hd : decode cc pc = .ok (.istore_n j, 1)) (hi : (j : Nat) = i) (hn : i < nL) (hl' : pl_1 lv i (.int x) = lv')
    (k : pw_G g p l e R s m args below meth c nL Q cells slots (pc + 1) lv' st w) : pw_G g p l e R s m args below meth c nL Q cells slots pc lv (.int x :: st) w :=
  fun ls H locs hl hH hS => lv_istore_n C.1 C.2.1 hd hi hl hn rfl (fun ls' h' => k ls' H locs (pl_has h' hl') hH hS)
theorem pw_istore (C : pw_C g p s m args meth c cc nL own) {i : Nat} {x : Int32} {lv' : List (Nat × Value)} (hd : decode cc pc = .ok (.istore i, 2)) (hn : i < nL) (hl' : pl_1 lv i (.int x) = lv')
    (k : pw_G g p l e R s m args below meth c nL Q cells slots (pc + 2) lv' st w) : pw_G g p l e R s m args below meth c nL Q cells slots pc lv (.int x :: st) w :=
  fun ls H locs hl hH hS => lv_istore C.1 C.2.1 hd hl hn rfl (fun ls' h' => k ls' H locs (pl_has h' hl') hH hS)
theorem pw_lstore_n (C : pw_C g p s m args meth c cc nL own) {j : Fin 4} {i : Nat} {x : Int64} {lv' : List (Nat × Value)} (hd : decode cc pc = .ok (.lstore_n j, 1)) (hi : (j : Nat) = i) (hn : i + 1 < nL) (hl' : pl_2 lv i (.long x) = lv')
    (k : pw_G g p l e R s m args below meth c nL Q cells slots (pc + 1) lv' st w) : pw_G g p l e R s m args below meth c nL Q cells slots pc lv (.long x :: st) w :=
  fun ls H locs hl hH hS => lv_lstore_n C.1 C.2.1 hd hi hl hn rfl (fun ls' h' => k ls' H locs (pl_has h' hl') hH hS)
theorem pw_lstore (C : pw_C g p s m args meth c cc nL own) {i : Nat} {x : Int64} {lv' : List (Nat × Value)} (hd : decode cc pc = .ok (.lstore i, 2)) (hn : i + 1 < nL) (hl' : pl_2 lv i (.long x) = lv')
    (k : pw_G g p l e R s m args below meth c nL Q cells slots (pc + 2) lv' st w) : pw_G g p l e R s m args below meth c nL Q cells slots pc lv (.long x :: st) w :=
  fun ls H locs hl hH hS => lv_lstore C.1 C.2.1 hd hl hn rfl (fun ls' h' => k ls' H locs (pl_has h' hl') hH hS)
theorem pw_astore_n (C : pw_C g p s m args meth c cc nL own) {j : Fin 4} {i : Nat} {v : Value} {lv' : List (Nat × Value)} (hd : decode cc pc = .ok (.astore_n j, 1)) (hi : (j : Nat) = i) (hn : i < nL) (hv : v = .null ∨ ∃ a, v = .ref a) (hl' : pl_1 lv i v = lv')
    (k : pw_G g p l e R s m args below meth c nL Q cells slots (pc + 1) lv' st w) : pw_G g p l e R s m args below meth c nL Q cells slots pc lv (v :: st) w := by
  intro ls H locs hl hH hS
  rcases hv with rfl | ⟨a, rfl⟩
  · exact lv_astore_nN C.1 C.2.1 hd hi hl hn rfl (fun ls' h' => k ls' H locs (pl_has h' hl') hH hS)
  · exact lv_astore_n C.1 C.2.1 hd hi hl hn rfl (fun ls' h' => k ls' H locs (pl_has h' hl') hH hS)
theorem pw_astore (C : pw_C g p s m args meth c cc nL own) {i : Nat} {v : Value} {lv' : List (Nat × Value)} (hd : decode cc pc = .ok (.astore i, 2)) (hn : i < nL) (hv : v = .null ∨ ∃ a, v = .ref a) (hl' : pl_1 lv i v = lv')
    (k : pw_G g p l e R s m args below meth c nL Q cells slots (pc + 2) lv' st w) : pw_G g p l e R s m args below meth c nL Q cells slots pc lv (v :: st) w := by
  intro ls H locs hl hH hS
  rcases hv with rfl | ⟨a, rfl⟩
  · exact lv_astoreN C.1 C.2.1 hd hl hn rfl (fun ls' h' => k ls' H locs (pl_has h' hl') hH hS)
  · exact lv_astore C.1 C.2.1 hd hl hn rfl (fun ls' h' => k ls' H locs (pl_has h' hl') hH hS)
theorem pw_iinc (C : pw_C g p s m args meth c cc nL own) {i : Nat} {n z : Int} {lv' : List (Nat × Value)} (hd : decode cc pc = .ok (.iinc i n, 3)) (hg : pl_g lv i = some (.int (iZ z))) (hn : i < nL) (hl' : pl_1 lv i (.int (iZ (z + n))) = lv')
    (k : pw_G g p l e R s m args below meth c nL Q cells slots (pc + 3) lv' st w) : pw_G g p l e R s m args below meth c nL Q cells slots pc lv st w := by
  intro ls H locs hl hH hS
  have hl2 : lv_has ls nL ((i, .int (iZ z)) :: lv) := ⟨hl.1, hl.2.1, fun q hq => by
    rcases List.mem_cons.mp hq with rfl | hq
    · exact pl_get hl hg
    · exact hl.2.2 q hq⟩
  refine lv_iinc (k := 0) C.1 C.2.1 hd hl2 rfl (iz_add z n) hn rfl (fun ls' h' => k ls' H locs (pl_has h' ?_) hH hS)
  rw [← hl']
  unfold pl_1
  congr 1
  rw [List.filter_cons_of_neg (by simp)]
theorem pw_iadd (C : pw_C g p s m args meth c cc nL own) {a b : Int} (hd : decode cc pc = .ok (.iadd, 1))
    (k : pw_G g p l e R s m args below meth c nL Q cells slots (pc + 1) lv (.int (iZ (a + b)) :: st) w) : pw_G g p l e R s m args below meth c nL Q cells slots pc lv (.int (iZ b) :: .int (iZ a) :: st) w :=
  fun ls H locs hl hH hS => lv_iadd C.1 C.2.1 hd (by rw [iz_add]; exact k ls H locs hl hH hS)
theorem pw_isub (C : pw_C g p s m args meth c cc nL own) {a b : Int} (hd : decode cc pc = .ok (.isub, 1))
    (k : pw_G g p l e R s m args below meth c nL Q cells slots (pc + 1) lv (.int (iZ (a - b)) :: st) w) : pw_G g p l e R s m args below meth c nL Q cells slots pc lv (.int (iZ b) :: .int (iZ a) :: st) w :=
  fun ls H locs hl hH hS => lv_isub C.1 C.2.1 hd (by rw [iz_sub]; exact k ls H locs hl hH hS)
theorem pw_imul (C : pw_C g p s m args meth c cc nL own) {a b : Int} (hd : decode cc pc = .ok (.imul, 1))
    (k : pw_G g p l e R s m args below meth c nL Q cells slots (pc + 1) lv (.int (iZ (a * b)) :: st) w) : pw_G g p l e R s m args below meth c nL Q cells slots pc lv (.int (iZ b) :: .int (iZ a) :: st) w :=
  fun ls H locs hl hH hS => lv_imul C.1 C.2.1 hd (by rw [iz_mul]; exact k ls H locs hl hH hS)
theorem pw_ladd (C : pw_C g p s m args meth c cc nL own) {a b : Int} (hd : decode cc pc = .ok (.ladd, 1))
    (k : pw_G g p l e R s m args below meth c nL Q cells slots (pc + 1) lv (.long (lZ (a + b)) :: st) w) : pw_G g p l e R s m args below meth c nL Q cells slots pc lv (.long (lZ b) :: .long (lZ a) :: st) w :=
  fun ls H locs hl hH hS => lv_ladd C.1 C.2.1 hd (by rw [lz_add]; exact k ls H locs hl hH hS)
theorem pw_lsub (C : pw_C g p s m args meth c cc nL own) {a b : Int} (hd : decode cc pc = .ok (.lsub, 1))
    (k : pw_G g p l e R s m args below meth c nL Q cells slots (pc + 1) lv (.long (lZ (a - b)) :: st) w) : pw_G g p l e R s m args below meth c nL Q cells slots pc lv (.long (lZ b) :: .long (lZ a) :: st) w :=
  fun ls H locs hl hH hS => lv_lsub C.1 C.2.1 hd (by rw [lz_sub]; exact k ls H locs hl hH hS)
theorem pw_lmul (C : pw_C g p s m args meth c cc nL own) {a b : Int} (hd : decode cc pc = .ok (.lmul, 1))
    (k : pw_G g p l e R s m args below meth c nL Q cells slots (pc + 1) lv (.long (lZ (a * b)) :: st) w) : pw_G g p l e R s m args below meth c nL Q cells slots pc lv (.long (lZ b) :: .long (lZ a) :: st) w :=
  fun ls H locs hl hH hS => lv_lmul C.1 C.2.1 hd (by rw [lz_mul]; exact k ls H locs hl hH hS)
theorem pw_iand (C : pw_C g p s m args meth c cc nL own) {x y : Int32} {z : Int} (hd : decode cc pc = .ok (.iand, 1)) (hz : (x &&& y) = iZ z)
    (k : pw_G g p l e R s m args below meth c nL Q cells slots (pc + 1) lv (.int (iZ z) :: st) w) : pw_G g p l e R s m args below meth c nL Q cells slots pc lv (.int y :: .int x :: st) w :=
  fun ls H locs hl hH hS => lv_iand C.1 C.2.1 hd (by rw [hz]; exact k ls H locs hl hH hS)
theorem pw_ior (C : pw_C g p s m args meth c cc nL own) {x y : Int32} {z : Int} (hd : decode cc pc = .ok (.ior, 1)) (hz : (x ||| y) = iZ z)
    (k : pw_G g p l e R s m args below meth c nL Q cells slots (pc + 1) lv (.int (iZ z) :: st) w) : pw_G g p l e R s m args below meth c nL Q cells slots pc lv (.int y :: .int x :: st) w :=
  fun ls H locs hl hH hS => lv_ior C.1 C.2.1 hd (by rw [hz]; exact k ls H locs hl hH hS)
theorem pw_ishl (C : pw_C g p s m args meth c cc nL own) {x y : Int32} {z : Int} (hd : decode cc pc = .ok (.ishl, 1)) (hz : (x <<< (y &&& 31)) = iZ z)
    (k : pw_G g p l e R s m args below meth c nL Q cells slots (pc + 1) lv (.int (iZ z) :: st) w) : pw_G g p l e R s m args below meth c nL Q cells slots pc lv (.int y :: .int x :: st) w :=
  fun ls H locs hl hH hS => lv_ishl C.1 C.2.1 hd (by rw [hz]; exact k ls H locs hl hH hS)
theorem pw_ishr (C : pw_C g p s m args meth c cc nL own) {x y : Int32} {z : Int} (hd : decode cc pc = .ok (.ishr, 1)) (hz : (x >>> (y &&& 31)) = iZ z)
    (k : pw_G g p l e R s m args below meth c nL Q cells slots (pc + 1) lv (.int (iZ z) :: st) w) : pw_G g p l e R s m args below meth c nL Q cells slots pc lv (.int y :: .int x :: st) w :=
  fun ls H locs hl hH hS => lv_ishr C.1 C.2.1 hd (by rw [hz]; exact k ls H locs hl hH hS)
theorem pw_iushr (C : pw_C g p s m args meth c cc nL own) {x y : Int32} {z : Int} (hd : decode cc pc = .ok (.iushr, 1)) (hz : (x.toUInt32 >>> (y.toUInt32 &&& Int32.toUInt32 31)).toInt32 = iZ z)
    (k : pw_G g p l e R s m args below meth c nL Q cells slots (pc + 1) lv (.int (iZ z) :: st) w) : pw_G g p l e R s m args below meth c nL Q cells slots pc lv (.int y :: .int x :: st) w :=
  fun ls H locs hl hH hS => lv_iushr C.1 C.2.1 hd hz (k ls H locs hl hH hS)
theorem pw_lushr (C : pw_C g p s m args meth c cc nL own) {x : Int64} {y : Int32} {z : Int} (hd : decode cc pc = .ok (.lushr, 1)) (hz : (x.toUInt64 >>> (y.toInt64.toUInt64 &&& Int64.toUInt64 63)).toInt64 = lZ z)
    (k : pw_G g p l e R s m args below meth c nL Q cells slots (pc + 1) lv (.long (lZ z) :: st) w) : pw_G g p l e R s m args below meth c nL Q cells slots pc lv (.int y :: .long x :: st) w :=
  fun ls H locs hl hH hS => lv_lushr C.1 C.2.1 hd hz (k ls H locs hl hH hS)
theorem pw_lshr (C : pw_C g p s m args meth c cc nL own) {x : Int64} {y : Int32} {z : Int} (hd : decode cc pc = .ok (.lshr, 1)) (hz : x >>> (y.toInt64 &&& 63) = lZ z)
    (k : pw_G g p l e R s m args below meth c nL Q cells slots (pc + 1) lv (.long (lZ z) :: st) w) : pw_G g p l e R s m args below meth c nL Q cells slots pc lv (.int y :: .long x :: st) w :=
  fun ls H locs hl hH hS => lv_lshr C.1 C.2.1 hd hz (k ls H locs hl hH hS)
theorem pw_i2c (C : pw_C g p s m args meth c cc nL own) {x : Int32} {z : Int} (hd : decode cc pc = .ok (.i2c, 1)) (hz : (x.toUInt32 % 65536).toInt32 = iZ z)
    (k : pw_G g p l e R s m args below meth c nL Q cells slots (pc + 1) lv (.int (iZ z) :: st) w) : pw_G g p l e R s m args below meth c nL Q cells slots pc lv (.int x :: st) w :=
  fun ls H locs hl hH hS => lv_i2c C.1 C.2.1 hd hz (k ls H locs hl hH hS)
theorem pw_i2b (C : pw_C g p s m args meth c cc nL own) {x : Int32} {z : Int} (hd : decode cc pc = .ok (.i2b, 1)) (hz : x.toInt8.toInt32 = iZ z)
    (k : pw_G g p l e R s m args below meth c nL Q cells slots (pc + 1) lv (.int (iZ z) :: st) w) : pw_G g p l e R s m args below meth c nL Q cells slots pc lv (.int x :: st) w :=
  fun ls H locs hl hH hS => lv_i2b C.1 C.2.1 hd hz (k ls H locs hl hH hS)
theorem pw_i2l (C : pw_C g p s m args meth c cc nL own) {a : Int} (ha : inI a) (hd : decode cc pc = .ok (.i2l, 1))
    (k : pw_G g p l e R s m args below meth c nL Q cells slots (pc + 1) lv (.long (lZ a) :: st) w) : pw_G g p l e R s m args below meth c nL Q cells slots pc lv (.int (iZ a) :: st) w :=
  fun ls H locs hl hH hS => lv_i2l C.1 C.2.1 hd (iz_i2l ha) (k ls H locs hl hH hS)
theorem pw_l2i (C : pw_C g p s m args meth c cc nL own) {a : Int} (hd : decode cc pc = .ok (.l2i, 1))
    (k : pw_G g p l e R s m args below meth c nL Q cells slots (pc + 1) lv (.int (iZ a) :: st) w) : pw_G g p l e R s m args below meth c nL Q cells slots pc lv (.long (lZ a) :: st) w :=
  fun ls H locs hl hH hS => lv_l2i C.1 C.2.1 hd (iz_l2i a) (k ls H locs hl hH hS)
theorem pw_lcmp (C : pw_C g p s m args meth c cc nL own) {a b : Int} (ha : inL a) (hb : inL b) (hd : decode cc pc = .ok (.lcmp, 1))
    (k : pw_G g p l e R s m args below meth c nL Q cells slots (pc + 1) lv (.int (iZ (cmpZ a b)) :: st) w) : pw_G g p l e R s m args below meth c nL Q cells slots pc lv (.long (lZ b) :: .long (lZ a) :: st) w :=
  fun ls H locs hl hH hS => W.lcmp C.1 C.2.1 hd (by rw [cmpZ_of ha hb]; exact k ls H locs hl hH hS)
theorem pw_dup (C : pw_C g p s m args meth c cc nL own) {v : Value} (hd : decode cc pc = .ok (.dup, 1)) (hv : v.category = 1)
    (k : pw_G g p l e R s m args below meth c nL Q cells slots (pc + 1) lv (v :: v :: st) w) : pw_G g p l e R s m args below meth c nL Q cells slots pc lv (v :: st) w :=
  fun ls H locs hl hH hS => lv_dup C.1 C.2.1 hd hv (k ls H locs hl hH hS)
theorem pw_pop (C : pw_C g p s m args meth c cc nL own) {v : Value} (hd : decode cc pc = .ok (.pop, 1)) (hv : v.category = 1)
    (k : pw_G g p l e R s m args below meth c nL Q cells slots (pc + 1) lv st w) : pw_G g p l e R s m args below meth c nL Q cells slots pc lv (v :: st) w :=
  fun ls H locs hl hH hS => lv_pop C.1 C.2.1 hd hv (k ls H locs hl hH hS)
theorem pw_dup_x1 (C : pw_C g p s m args meth c cc nL own) {v u : Value} (hd : decode cc pc = .ok (.dup_x1, 1)) (hv : v.category = 1) (hu : u.category = 1)
    (k : pw_G g p l e R s m args below meth c nL Q cells slots (pc + 1) lv (v :: u :: v :: st) w) : pw_G g p l e R s m args below meth c nL Q cells slots pc lv (v :: u :: st) w :=
  fun ls H locs hl hH hS => lv_dup_x1 C.1 C.2.1 hd hv hu (k ls H locs hl hH hS)
theorem pw_null (C : pw_C g p s m args meth c cc nL own) (hd : decode cc pc = .ok (.aconst_null, 1))
    (k : pw_G g p l e R s m args below meth c nL Q cells slots (pc + 1) lv (.null :: st) w) : pw_G g p l e R s m args below meth c nL Q cells slots pc lv st w :=
  fun ls H locs hl hH hS => lv_null C.1 C.2.1 hd (k ls H locs hl hH hS)
theorem pw_goto (C : pw_C g p s m args meth c cc nL own) {off : Int} {tgt : Nat} (hd : decode cc pc = .ok (.goto off, 3)) (ht : (pc : Int) + off = (tgt : Int)) (k : pw_G g p l e R s m args below meth c nL Q cells slots tgt lv st w) : pw_G g p l e R s m args below meth c nL Q cells slots pc lv st w :=
  fun ls H locs hl hH hS => lv_goto C.1 C.2.1 hd ht (k ls H locs hl hH hS)
theorem pw_if_eq (C : pw_C g p s m args meth c cc nL own) {z : Int} {off : Int} {tgt : Nat} (hz : inI z) (hd : decode cc pc = .ok (.ifCond .eq off, 3)) (ht : (pc : Int) + off = (tgt : Int)) (kt : z = 0 → pw_G g p l e R s m args below meth c nL Q cells slots tgt lv st w) (kf : z ≠ 0 → pw_G g p l e R s m args below meth c nL Q cells slots (pc + 3) lv st w) : pw_G g p l e R s m args below meth c nL Q cells slots pc lv (.int (iZ z) :: st) w :=
  fun ls H locs hl hH hS => lv_if_eq C.1 C.2.1 hd ht (fun h => kt ((iz_eq hz ⟨by decide, by decide⟩).mp (h.trans iz_0.symm)) ls H locs hl hH hS) (fun h => kf (fun q => h ((congrArg iZ q).trans iz_0)) ls H locs hl hH hS)
theorem pw_if_ne (C : pw_C g p s m args meth c cc nL own) {z : Int} {off : Int} {tgt : Nat} (hz : inI z) (hd : decode cc pc = .ok (.ifCond .ne off, 3)) (ht : (pc : Int) + off = (tgt : Int)) (kt : z ≠ 0 → pw_G g p l e R s m args below meth c nL Q cells slots tgt lv st w) (kf : z = 0 → pw_G g p l e R s m args below meth c nL Q cells slots (pc + 3) lv st w) : pw_G g p l e R s m args below meth c nL Q cells slots pc lv (.int (iZ z) :: st) w :=
  fun ls H locs hl hH hS => lv_if_ne C.1 C.2.1 hd ht (fun h => kt (fun q => h ((congrArg iZ q).trans iz_0)) ls H locs hl hH hS) (fun h => kf ((iz_eq hz ⟨by decide, by decide⟩).mp (h.trans iz_0.symm)) ls H locs hl hH hS)
theorem pw_if_lt (C : pw_C g p s m args meth c cc nL own) {z : Int} {off : Int} {tgt : Nat} (hz : inI z) (hd : decode cc pc = .ok (.ifCond .lt off, 3)) (ht : (pc : Int) + off = (tgt : Int)) (kt : z < 0 → pw_G g p l e R s m args below meth c nL Q cells slots tgt lv st w) (kf : 0 ≤ z → pw_G g p l e R s m args below meth c nL Q cells slots (pc + 3) lv st w) : pw_G g p l e R s m args below meth c nL Q cells slots pc lv (.int (iZ z) :: st) w :=
  fun ls H locs hl hH hS => lv_if_lt C.1 C.2.1 hd ht (fun h => kt ((iz_lt hz ⟨by decide, by decide⟩).mp (by rw [iz_0]; exact h)) ls H locs hl hH hS) (fun h => kf (Int.not_lt.mp (fun q => h (by rw [← iz_0]; exact (iz_lt hz ⟨by decide, by decide⟩).mpr q))) ls H locs hl hH hS)
theorem pw_if_ge (C : pw_C g p s m args meth c cc nL own) {z : Int} {off : Int} {tgt : Nat} (hz : inI z) (hd : decode cc pc = .ok (.ifCond .ge off, 3)) (ht : (pc : Int) + off = (tgt : Int)) (kt : 0 ≤ z → pw_G g p l e R s m args below meth c nL Q cells slots tgt lv st w) (kf : z < 0 → pw_G g p l e R s m args below meth c nL Q cells slots (pc + 3) lv st w) : pw_G g p l e R s m args below meth c nL Q cells slots pc lv (.int (iZ z) :: st) w :=
  fun ls H locs hl hH hS => lv_if_ge C.1 C.2.1 hd ht (fun h => kt ((iz_le ⟨by decide, by decide⟩ hz).mp (by rw [iz_0]; exact h)) ls H locs hl hH hS) (fun h => kf (Int.not_le.mp (fun q => h (by rw [← iz_0]; exact (iz_le ⟨by decide, by decide⟩ hz).mpr q))) ls H locs hl hH hS)
theorem pw_if_gt (C : pw_C g p s m args meth c cc nL own) {z : Int} {off : Int} {tgt : Nat} (hz : inI z) (hd : decode cc pc = .ok (.ifCond .gt off, 3)) (ht : (pc : Int) + off = (tgt : Int)) (kt : 0 < z → pw_G g p l e R s m args below meth c nL Q cells slots tgt lv st w) (kf : z ≤ 0 → pw_G g p l e R s m args below meth c nL Q cells slots (pc + 3) lv st w) : pw_G g p l e R s m args below meth c nL Q cells slots pc lv (.int (iZ z) :: st) w :=
  fun ls H locs hl hH hS => lv_if_gt C.1 C.2.1 hd ht (fun h => kt ((iz_lt ⟨by decide, by decide⟩ hz).mp (by rw [iz_0]; exact h)) ls H locs hl hH hS) (fun h => kf (Int.not_lt.mp (fun q => h (by rw [← iz_0]; exact (iz_lt ⟨by decide, by decide⟩ hz).mpr q))) ls H locs hl hH hS)
theorem pw_if_le (C : pw_C g p s m args meth c cc nL own) {z : Int} {off : Int} {tgt : Nat} (hz : inI z) (hd : decode cc pc = .ok (.ifCond .le off, 3)) (ht : (pc : Int) + off = (tgt : Int)) (kt : z ≤ 0 → pw_G g p l e R s m args below meth c nL Q cells slots tgt lv st w) (kf : 0 < z → pw_G g p l e R s m args below meth c nL Q cells slots (pc + 3) lv st w) : pw_G g p l e R s m args below meth c nL Q cells slots pc lv (.int (iZ z) :: st) w :=
  fun ls H locs hl hH hS => lv_if_le C.1 C.2.1 hd ht (fun h => kt ((iz_le hz ⟨by decide, by decide⟩).mp (by rw [iz_0]; exact h)) ls H locs hl hH hS) (fun h => kf (Int.not_le.mp (fun q => h (by rw [← iz_0]; exact (iz_le hz ⟨by decide, by decide⟩).mpr q))) ls H locs hl hH hS)
theorem pw_icmp_eq (C : pw_C g p s m args meth c cc nL own) {a b : Int} {off : Int} {tgt : Nat} (ha : inI a) (hb : inI b) (hd : decode cc pc = .ok (.if_icmp .eq off, 3)) (ht : (pc : Int) + off = (tgt : Int)) (kt : a = b → pw_G g p l e R s m args below meth c nL Q cells slots tgt lv st w) (kf : a ≠ b → pw_G g p l e R s m args below meth c nL Q cells slots (pc + 3) lv st w) : pw_G g p l e R s m args below meth c nL Q cells slots pc lv (.int (iZ b) :: .int (iZ a) :: st) w :=
  fun ls H locs hl hH hS => lv_icmp_eq C.1 C.2.1 hd ht (fun h => kt ((iz_eq ha hb).mp h) ls H locs hl hH hS) (fun h => kf (fun q => h ((iz_eq ha hb).mpr q)) ls H locs hl hH hS)
theorem pw_icmp_ne (C : pw_C g p s m args meth c cc nL own) {a b : Int} {off : Int} {tgt : Nat} (ha : inI a) (hb : inI b) (hd : decode cc pc = .ok (.if_icmp .ne off, 3)) (ht : (pc : Int) + off = (tgt : Int)) (kt : a ≠ b → pw_G g p l e R s m args below meth c nL Q cells slots tgt lv st w) (kf : a = b → pw_G g p l e R s m args below meth c nL Q cells slots (pc + 3) lv st w) : pw_G g p l e R s m args below meth c nL Q cells slots pc lv (.int (iZ b) :: .int (iZ a) :: st) w :=
  fun ls H locs hl hH hS => lv_icmp_ne C.1 C.2.1 hd ht (fun h => kt (fun q => h ((iz_eq ha hb).mpr q)) ls H locs hl hH hS) (fun h => kf ((iz_eq ha hb).mp h) ls H locs hl hH hS)
theorem pw_icmp_lt (C : pw_C g p s m args meth c cc nL own) {a b : Int} {off : Int} {tgt : Nat} (ha : inI a) (hb : inI b) (hd : decode cc pc = .ok (.if_icmp .lt off, 3)) (ht : (pc : Int) + off = (tgt : Int)) (kt : a < b → pw_G g p l e R s m args below meth c nL Q cells slots tgt lv st w) (kf : b ≤ a → pw_G g p l e R s m args below meth c nL Q cells slots (pc + 3) lv st w) : pw_G g p l e R s m args below meth c nL Q cells slots pc lv (.int (iZ b) :: .int (iZ a) :: st) w :=
  fun ls H locs hl hH hS => lv_icmp_lt C.1 C.2.1 hd ht (fun h => kt ((iz_lt ha hb).mp h) ls H locs hl hH hS) (fun h => kf (Int.not_lt.mp (fun q => h ((iz_lt ha hb).mpr q))) ls H locs hl hH hS)
theorem pw_icmp_ge (C : pw_C g p s m args meth c cc nL own) {a b : Int} {off : Int} {tgt : Nat} (ha : inI a) (hb : inI b) (hd : decode cc pc = .ok (.if_icmp .ge off, 3)) (ht : (pc : Int) + off = (tgt : Int)) (kt : b ≤ a → pw_G g p l e R s m args below meth c nL Q cells slots tgt lv st w) (kf : a < b → pw_G g p l e R s m args below meth c nL Q cells slots (pc + 3) lv st w) : pw_G g p l e R s m args below meth c nL Q cells slots pc lv (.int (iZ b) :: .int (iZ a) :: st) w :=
  fun ls H locs hl hH hS => lv_icmp_ge C.1 C.2.1 hd ht (fun h => kt ((iz_le hb ha).mp h) ls H locs hl hH hS) (fun h => kf (Int.not_le.mp (fun q => h ((iz_le hb ha).mpr q))) ls H locs hl hH hS)
theorem pw_icmp_gt (C : pw_C g p s m args meth c cc nL own) {a b : Int} {off : Int} {tgt : Nat} (ha : inI a) (hb : inI b) (hd : decode cc pc = .ok (.if_icmp .gt off, 3)) (ht : (pc : Int) + off = (tgt : Int)) (kt : b < a → pw_G g p l e R s m args below meth c nL Q cells slots tgt lv st w) (kf : a ≤ b → pw_G g p l e R s m args below meth c nL Q cells slots (pc + 3) lv st w) : pw_G g p l e R s m args below meth c nL Q cells slots pc lv (.int (iZ b) :: .int (iZ a) :: st) w :=
  fun ls H locs hl hH hS => lv_icmp_gt C.1 C.2.1 hd ht (fun h => kt ((iz_lt hb ha).mp h) ls H locs hl hH hS) (fun h => kf (Int.not_lt.mp (fun q => h ((iz_lt hb ha).mpr q))) ls H locs hl hH hS)
theorem pw_icmp_le (C : pw_C g p s m args meth c cc nL own) {a b : Int} {off : Int} {tgt : Nat} (ha : inI a) (hb : inI b) (hd : decode cc pc = .ok (.if_icmp .le off, 3)) (ht : (pc : Int) + off = (tgt : Int)) (kt : a ≤ b → pw_G g p l e R s m args below meth c nL Q cells slots tgt lv st w) (kf : b < a → pw_G g p l e R s m args below meth c nL Q cells slots (pc + 3) lv st w) : pw_G g p l e R s m args below meth c nL Q cells slots pc lv (.int (iZ b) :: .int (iZ a) :: st) w :=
  fun ls H locs hl hH hS => lv_icmp_le C.1 C.2.1 hd ht (fun h => kt ((iz_le ha hb).mp h) ls H locs hl hH hS) (fun h => kf (Int.not_le.mp (fun q => h ((iz_le ha hb).mpr q))) ls H locs hl hH hS)
theorem pw_if_eqB (C : pw_C g p s m args meth c cc nL own) {b : Bool} {off : Int} {tgt : Nat} (hd : decode cc pc = .ok (.ifCond .eq off, 3)) (ht : (pc : Int) + off = (tgt : Int)) (kt : b = false → pw_G g p l e R s m args below meth c nL Q cells slots tgt lv st w) (kf : b = true → pw_G g p l e R s m args below meth c nL Q cells slots (pc + 3) lv st w) : pw_G g p l e R s m args below meth c nL Q cells slots pc lv (.int (iZ (b2i b)) :: st) w :=
  pw_if_eq C (b2i_in b) hd ht (fun h => kt (by cases b <;> simp_all [b2i])) (fun h => kf (by cases b <;> simp_all [b2i]))
theorem pw_if_neB (C : pw_C g p s m args meth c cc nL own) {b : Bool} {off : Int} {tgt : Nat} (hd : decode cc pc = .ok (.ifCond .ne off, 3)) (ht : (pc : Int) + off = (tgt : Int)) (kt : b = true → pw_G g p l e R s m args below meth c nL Q cells slots tgt lv st w) (kf : b = false → pw_G g p l e R s m args below meth c nL Q cells slots (pc + 3) lv st w) : pw_G g p l e R s m args below meth c nL Q cells slots pc lv (.int (iZ (b2i b)) :: st) w :=
  pw_if_ne C (b2i_in b) hd ht (fun h => kt (by cases b <;> simp_all [b2i])) (fun h => kf (by cases b <;> simp_all [b2i]))
theorem pw_ifnull (C : pw_C g p s m args meth c cc nL own) {v : Option Nat} {off : Int} {tgt : Nat} (hd : decode cc pc = .ok (.ifnull off, 3)) (ht : (pc : Int) + off = (tgt : Int)) (kt : v = none → pw_G g p l e R s m args below meth c nL Q cells slots tgt lv st w) (kf : ∀ a, v = some a → pw_G g p l e R s m args below meth c nL Q cells slots (pc + 3) lv st w) : pw_G g p l e R s m args below meth c nL Q cells slots pc lv (va_rf v :: st) w := by
  intro ls H locs hl hH hS
  cases v with
  | none => exact lv_ifnullN C.1 C.2.1 hd ht (kt rfl ls H locs hl hH hS)
  | some a => exact lv_ifnull C.1 C.2.1 hd (kf a rfl ls H locs hl hH hS)
theorem pw_ifnonnull (C : pw_C g p s m args meth c cc nL own) {v : Option Nat} {off : Int} {tgt : Nat} (hd : decode cc pc = .ok (.ifnonnull off, 3)) (ht : (pc : Int) + off = (tgt : Int)) (kt : ∀ a, v = some a → pw_G g p l e R s m args below meth c nL Q cells slots tgt lv st w) (kf : v = none → pw_G g p l e R s m args below meth c nL Q cells slots (pc + 3) lv st w) : pw_G g p l e R s m args below meth c nL Q cells slots pc lv (va_rf v :: st) w := by
  intro ls H locs hl hH hS
  cases v with
  | none => exact lv_ifnonnullN C.1 C.2.1 hd (kf rfl ls H locs hl hH hS)
  | some a => exact lv_ifnonnull C.1 C.2.1 hd ht (kt a rfl ls H locs hl hH hS)
/-- fewer locals, more room, another stack or world that is the same -/
theorem pw_sub {lv' : List (Nat × Value)} (ks : List Nat) (h : lv_pick lv ks = lv') (k : pw_G g p l e R s m args below meth c nL Q cells slots pc lv' st w) : pw_G g p l e R s m args below meth c nL Q cells slots pc lv st w :=
  fun ls H locs hl hH hS => k ls H locs (lv_sub hl ks h) hH hS
theorem pw_wide (cells' slots' : Nat) (h1 : cells ≤ cells') (h2 : slots ≤ slots') (k : pw_G g p l e R s m args below meth c nL Q cells' slots' pc lv st w) : pw_G g p l e R s m args below meth c nL Q cells slots pc lv st w :=
  fun ls H locs hl hH hS => W.widen h1 h2 (k ls H locs hl hH hS)
/-! RETURNS -/
theorem pw_post {post : Option Value → pw_W → Prop} {r : Option Value} {H : Heap} {locs : List Loc} (hp : post r w) (hH : pw_H g w H) (hS : va_S (pw_A g) s.heap H locs) (t : State) (ht : t.heap = H) : pw_Qc g post args s (.returned r) t :=
  ⟨⟨r, w, rfl, hp, by rw [ht]; exact hH⟩, hS.F ht⟩
theorem pw_iret (C : pw_C g p s m args meth c cc nL own) {post : Option Value → pw_W → Prop} {x : Int32} (hr : meth.sig.returnType = some .int) (hd : decode cc pc = .ok (.ireturn, 1)) (hp : post (some (.int x)) w) : pw_G g p l e R s m args below meth c nL (MQ below (pw_Qc g post) args s cells slots (pw_A g)) cells slots pc lv [.int x] w :=
  fun ls H locs hl hH hS => W.iret (v := x) C.1 C.2.1 hr (fun t ht hW => pw_post hp hH hS t ht) hS.2.2 hd (hlocks := C.2.2.2.2.2.1)
theorem pw_zret (C : pw_C g p s m args meth c cc nL own) {post : Option Value → pw_W → Prop} {x : Int32} {ty : FieldType} (hr : meth.sig.returnType = some ty) (hn : narrow ty (.int x) = .int x) (hd : decode cc pc = .ok (.ireturn, 1)) (hp : post (some (.int x)) w) : pw_G g p l e R s m args below meth c nL (MQ below (pw_Qc g post) args s cells slots (pw_A g)) cells slots pc lv [.int x] w :=
  fun ls H locs hl hH hS => W.zret (v := x) C.1 C.2.1 hr hn (fun t ht hW => pw_post hp hH hS t ht) hS.2.2 hd (hlocks := C.2.2.2.2.2.1)
theorem pw_lret (C : pw_C g p s m args meth c cc nL own) {post : Option Value → pw_W → Prop} {x : Int64} (hr : meth.sig.returnType = some .long) (hd : decode cc pc = .ok (.lreturn, 1)) (hp : post (some (.long x)) w) : pw_G g p l e R s m args below meth c nL (MQ below (pw_Qc g post) args s cells slots (pw_A g)) cells slots pc lv [.long x] w :=
  fun ls H locs hl hH hS => W.lret (v := x) C.1 C.2.1 hr (fun t ht hW => pw_post hp hH hS t ht) hS.2.2 hd (hlocks := C.2.2.2.2.2.1)
theorem pw_vret (C : pw_C g p s m args meth c cc nL own) {post : Option Value → pw_W → Prop} (hr : meth.sig.returnType = none) (hd : decode cc pc = .ok (.return_, 1)) (hp : post none w) : pw_G g p l e R s m args below meth c nL (MQ below (pw_Qc g post) args s cells slots (pw_A g)) cells slots pc lv [] w :=
  fun ls H locs hl hH hS => W.vret C.1 C.2.1 hr (fun t ht hW => pw_post hp hH hS t ht) hS.2.2 hd (hlocks := C.2.2.2.2.2.1)
theorem pw_aret (C : pw_C g p s m args meth c cc nL own) {post : Option Value → pw_W → Prop} {v : Value} {rt : FieldType} (hr : meth.sig.returnType = some rt) (hrt : (∃ n, rt = .object n) ∨ ∃ t, rt = .array t) (hv : v = .null ∨ ∃ a, v = .ref a) (hd : decode cc pc = .ok (.areturn, 1)) (hp : post (some v) w) : pw_G g p l e R s m args below meth c nL (MQ below (pw_Qc g post) args s cells slots (pw_A g)) cells slots pc lv [v] w :=
  fun ls H locs hl hH hS => W.aret (v := v) C.1 C.2.1 hr hrt hv (fun t ht hW => pw_post hp hH hS t ht) hS.2.2 hd (hlocks := C.2.2.2.2.2.1)
end
end
section
/-! CLASSES and their fields -/
def pw_CL (ci : Nat) (q : vw_C) (ty0 : Nat → FieldType) : Prop := vwCl[ci]? = some q ∧ (∀ w ∈ u_ws q.1 q.2.1 q.2.2, w ∈ pw_T) ∧ (∀ k, k < q.2.2 → parseFieldDescriptor (q.2.1 k).2.2.1 = some (ty0 k)) ∧ ∀ a, a < q.2.2 → ∀ b, b < q.2.2 → a ≠ b → (q.2.1 a).2.1 ≠ (q.2.1 b).2.1
theorem pw_ws {C : String} {T : u_T} {N : Nat} (h : (u_ws C T N).all (fun w => decide (w ∈ lw_tbl) && goodWord w) = true) : ∀ w ∈ u_ws C T N, w ∈ pw_T := by
  intro w hw
  have h1 := List.all_eq_true.mp h w hw
  simp only [Bool.and_eq_true, decide_eq_true_eq] at h1
  exact pw_in h1.1 h1.2
theorem at_AI (g : pw_P) (a n : Nat) (f : Nat → Int) (H : Heap) : va_at g.1 vwCl (a, AI g n f) H = (H[a]? = some (arrV (g.2.1 0) n (fun j => .int (iZ (f j))))) := rfl
theorem at_AJ (g : pw_P) (a n : Nat) (f : Nat → Int) (H : Heap) : va_at g.1 vwCl (a, AJ g n f) H = (H[a]? = some (arrV (g.2.1 1) n (fun j => .long (lZ (f j))))) := rfl
theorem at_AC (g : pw_P) (a n : Nat) (f : Nat → Int) (H : Heap) : va_at g.1 vwCl (a, AC g n f) H = (H[a]? = some (arrV (g.2.1 2) n (fun j => .int (iZ (f j))))) := rfl
theorem at_AZ (g : pw_P) (a n : Nat) (f : Nat → Int) (H : Heap) : va_at g.1 vwCl (a, AZ g n f) H = (H[a]? = some (arrV (g.2.1 3) n (fun j => .int (iZ (f j))))) := rfl
theorem at_AR (g : pw_P) (a t n : Nat) (f : Nat → Option Nat) (H : Heap) : va_at g.1 vwCl (a, AR g t n f) H = (H[a]? = some (arrV (g.2.1 t) n (fun j => va_rf (f j)))) := rfl
section
variable {g : pw_P} {p : Program} {l : Launch} {e : Env} {R : Room} {s : State} {m : MethodId} {args : Array Value} {below : List Frame} {meth : Method} {c : Code} {cc : ByteArray} {nL : Nat} {own : String} {Q : State → Prop} {cells slots pc : Nat} {lv : List (Nat × Value)} {st : List Value} {w : pw_W}
variable {k a ci j idx : Nat} {q : vw_C} {ty0 : Nat → FieldType} {fs : List Value} {v : Value} {ty : FieldType} {host : String}
theorem pw_get (C : pw_C g p s m args meth c cc nL own) (hcl : pw_CL ci q ty0) (hlink : Cond.fieldLink own idx q.1 (q.2.1 j).2.1 (q.2.1 j).2.2.1 ∈ pw_T) (hj : j < q.2.2) (hdecl : (q.2.1 j).1 = q.1) (hk : w k = (a, some (OB ci fs))) (hv : fs[j]? = some v) (hd : decode cc pc = .ok (.getfield idx, 3))
    (kk : pw_G g p l e R s m args below meth c nL Q cells slots (pc + 3) lv (v :: st) w) : pw_G g p l e R s m args below meth c nL Q cells slots pc lv (.ref a :: st) w := by
  intro ls H locs hl hH hS
  exact va_get (D := g.1) (cl := vwCl) (C := q.1) (T := q.2.1) (N := q.2.2) C.1 C.2.1 C.2.2.2.2.1 hcl.2.1 C.2.2.2.1 C.2.2.2.2.2.2.2.1 (hH.one hk) 0 rfl hcl.1 j hj (C.2.2.2.2.1 _ hlink) (fun x hx => by rw [← hdecl]; exact hx) hv hd (kk ls H locs hl hH hS)
theorem pw_getN (C : pw_C g p s m args meth c cc nL own) (hcl : pw_CL ci q ty0) (hlink : Cond.fieldLinkNest own idx q.1 (q.2.1 j).2.1 (q.2.1 j).2.2.1 host ∈ pw_N) (hj : j < q.2.2) (hdecl : (q.2.1 j).1 = q.1) (hk : w k = (a, some (OB ci fs))) (hv : fs[j]? = some v) (hd : decode cc pc = .ok (.getfield idx, 3))
    (kk : pw_G g p l e R s m args below meth c nL Q cells slots (pc + 3) lv (v :: st) w) : pw_G g p l e R s m args below meth c nL Q cells slots pc lv (.ref a :: st) w := by
  intro ls H locs hl hH hS
  exact va_getN (D := g.1) (cl := vwCl) (C := q.1) (T := q.2.1) (N := q.2.2) C.1 C.2.1 C.2.2.2.2.1 hcl.2.1 C.2.2.2.1 C.2.2.2.2.2.2.2.1 (hH.one hk) 0 rfl hcl.1 j hj (va_Nw.use rfl (C.2.2.2.2.2.2.2.2.1 _ hlink)) (fun x hx => by rw [← hdecl]; exact hx) hv hd (kk ls H locs hl hH hS)
/-- what a put needs of the tables, once for the three rows below -/
theorem pw_putV (C : pw_C g p s m args meth c cc nL own) (hcl : pw_CL ci q ty0) (hj : j < q.2.2) {H H1 : Heap} {locs : List Loc} (hH : pw_H g w H) (hk : w k = (a, some (OB ci fs))) (hl : j < fs.length) {f : Field} {cf fi : Nat} {kf : Class} (hi : s.fieldFound? (q.2.1 j).1 (q.2.1 j).2.1 (q.2.1 j).2.2.1 = some (cf, kf, fi, f)) {cell : Cell} (hcell : H[a]? = some cell) (e1 : H1[a]? = some (cell.setSlot f.slot v)) (e3 : ∀ x, x ≠ a → H1[x]? = H[x]?) : pw_H g (va_up w k (a, some (OB ci (fs.set j v)))) H1 := by
  refine hH.put hk ?_ e3
  have hap := va_apart (own := own) C.2.2.2.2.1 hcl.2.1 ty0 hcl.2.2.1 hcl.2.2.2 C.2.2.2.2.2.2.2.1 hcl.1
  obtain ⟨r, h1, cell', q1, q2, q3, q4⟩ := (hH.1 k a _ hk).1
  have hr : r = q := Option.some.inj (h1.symm.trans hcl.1)
  subst hr
  cases hcell.symm.trans q1
  obtain ⟨hS, -⟩ := C.2.2.2.2.2.2.2.1.1 ci _ hcl.1
  obtain ⟨cf', kf', fi', f', hi', hsl⟩ := hS j hj
  cases hi.symm.trans hi'
  rw [hsl] at e1
  exact ⟨_, hcl.1, t_OB.to (V := updV (vp_V fs) j v) ⟨_, e1, q2, q3, t_set q4 hap hj v⟩ (fun i _ => vp_updV_set hl v i)⟩
theorem pw_put (C : pw_C g p s m args meth c cc nL own) (hcl : pw_CL ci q ty0) (hlink : Cond.fieldLink own idx q.1 (q.2.1 j).2.1 (q.2.1 j).2.2.1 ∈ pw_T) (hj : j < q.2.2) (hdecl : (q.2.1 j).1 = q.1) (hfin : (q.2.1 j).2.2.2 = false) (hty : ty0 j = ty) (hn : narrow ty v = v) (hfit : fits ty v = true) (hk : w k = (a, some (OB ci fs))) (hl : j < fs.length) (hd : decode cc pc = .ok (.putfield idx, 3))
    (kk : ∀ w' : pw_W, w' k = (a, some (OB ci (fs.set j v))) → (∀ i, i ≠ k → w' i = w i) → pw_G g p l e R s m args below meth c nL Q cells slots (pc + 3) lv st w') : pw_G g p l e R s m args below meth c nL Q cells slots pc lv (v :: .ref a :: st) w := by
  intro ls H locs hl2 hH hS
  obtain ⟨r, h1, cell, q1, q2, q3, q4⟩ := (hH.1 k a _ hk).1
  have hr : r = q := Option.some.inj (h1.symm.trans hcl.1)
  subst hr
  obtain ⟨hSl, hfc, kC, hkC, hkind⟩ := C.2.2.2.2.2.2.2.1.1 ci _ hcl.1
  obtain ⟨cf, kf, fi, f, hi, hsl⟩ := hSl j hj
  have hlay := C.2.2.2.2.1 _ (hcl.2.1 _ (u_in_lay hj))
  unfold u_lay at hlay
  rw [if_neg (by rw [hfin]; decide)] at hlay
  have hst := (u_facts hfc hkC (u_lays C.2.2.2.2.1 hcl.2.1 hj) hi).1
  have h6 := u_store hfc hkC hkind hlay hi (hcl.2.2.1 j hj) (by rw [hty]; exact hn) (by rw [hty]; exact hfit)
  refine W.putK C.1 C.2.1 (f := f) ⟨C.2.2.2.1, C.2.2.2.2.1 _ hlink, ⟨_, _, _, by rw [← hdecl]; exact hi⟩, hst⟩ (by rw [q2]; exact h6) q1 q3 (by rw [hsl]; exact k2_hasslot (q4 j hj)) rfl rfl hd fun H' e1 e2 e3 => ?_
  exact kk _ (va_up_self _ _ _) (fun i hi => va_up_ne _ _ hi) ls H' _ hl2 (pw_putV (locs := locs) C hcl hj hH hk hl hi q1 e1 e3) (hS.put e2 e3 (hH.1 k a _ hk).2)
theorem pw_putN (C : pw_C g p s m args meth c cc nL own) (hcl : pw_CL ci q ty0) (hlink : Cond.fieldLinkNest own idx q.1 (q.2.1 j).2.1 (q.2.1 j).2.2.1 host ∈ pw_N) (hj : j < q.2.2) (hdecl : (q.2.1 j).1 = q.1) (hfin : (q.2.1 j).2.2.2 = false) (hty : ty0 j = ty) (hn : narrow ty v = v) (hfit : fits ty v = true) (hk : w k = (a, some (OB ci fs))) (hl : j < fs.length) (hd : decode cc pc = .ok (.putfield idx, 3))
    (kk : ∀ w' : pw_W, w' k = (a, some (OB ci (fs.set j v))) → (∀ i, i ≠ k → w' i = w i) → pw_G g p l e R s m args below meth c nL Q cells slots (pc + 3) lv st w') : pw_G g p l e R s m args below meth c nL Q cells slots pc lv (v :: .ref a :: st) w := by
  intro ls H locs hl2 hH hS
  obtain ⟨r, h1, cell, q1, q2, q3, q4⟩ := (hH.1 k a _ hk).1
  have hr : r = q := Option.some.inj (h1.symm.trans hcl.1)
  subst hr
  obtain ⟨hSl, hfc, kC, hkC, hkind⟩ := C.2.2.2.2.2.2.2.1.1 ci _ hcl.1
  obtain ⟨cf, kf, fi, f, hi, hsl⟩ := hSl j hj
  have hlay := C.2.2.2.2.1 _ (hcl.2.1 _ (u_in_lay hj))
  unfold u_lay at hlay
  rw [if_neg (by rw [hfin]; decide)] at hlay
  have hst := (u_facts hfc hkC (u_lays C.2.2.2.2.1 hcl.2.1 hj) hi).1
  have h6 := u_store hfc hkC hkind hlay hi (hcl.2.2.1 j hj) (by rw [hty]; exact hn) (by rw [hty]; exact hfit)
  refine va_WputK C.1 C.2.1 (f := f) C.2.2.2.1 (va_Nw.use rfl (C.2.2.2.2.2.2.2.2.1 _ hlink)) (by rw [← hdecl]; exact hi) hst (by rw [q2]; exact h6) q1 q3 (by rw [hsl]; exact k2_hasslot (q4 j hj)) rfl rfl hd fun H' e1 e2 e3 => ?_
  exact kk _ (va_up_self _ _ _) (fun i hi => va_up_ne _ _ hi) ls H' _ hl2 (pw_putV (locs := locs) C hcl hj hH hk hl hi q1 e1 e3) (hS.put e2 e3 (hH.1 k a _ hk).2)
/-- a final field, in a constructor -/
theorem pw_putF (C : pw_C g p s m args meth c cc nL own) (hname : meth.name = "<init>") (hcl : pw_CL ci q ty0) (hlink : Cond.fieldLink own idx q.1 (q.2.1 j).2.1 (q.2.1 j).2.2.1 ∈ pw_T) (hj : j < q.2.2) (hdecl : (q.2.1 j).1 = q.1) (hown : q.1 = own) (hfin : (q.2.1 j).2.2.2 = true) (hty : ty0 j = ty) (hn : narrow ty v = v) (hfit : fits ty v = true) (hk : w k = (a, some (OB ci fs))) (hl : j < fs.length) (hd : decode cc pc = .ok (.putfield idx, 3))
    (kk : ∀ w' : pw_W, w' k = (a, some (OB ci (fs.set j v))) → (∀ i, i ≠ k → w' i = w i) → pw_G g p l e R s m args below meth c nL Q cells slots (pc + 3) lv st w') : pw_G g p l e R s m args below meth c nL Q cells slots pc lv (v :: .ref a :: st) w := by
  intro ls H locs hl2 hH hS
  obtain ⟨r, h1, cell, q1, q2, q3, q4⟩ := (hH.1 k a _ hk).1
  have hr : r = q := Option.some.inj (h1.symm.trans hcl.1)
  subst hr
  obtain ⟨hSl, hfc, kC, hkC, hkind⟩ := C.2.2.2.2.2.2.2.1.1 ci _ hcl.1
  obtain ⟨cf, kf, fi, f, hi, hsl⟩ := hSl j hj
  have hlay := C.2.2.2.2.1 _ (hcl.2.1 _ (u_in_lay hj))
  unfold u_lay at hlay
  rw [if_pos hfin] at hlay
  have hst := (u_facts hfc hkC (u_lays C.2.2.2.2.1 hcl.2.1 hj) hi).1
  have hcf : m.cls = cf := by
    obtain ⟨_, _, c', _, _, _, -, -, hf', -, -, -, hown2, -⟩ := Cond.laysFinal_spec hlay
    have e1 : c' = cf := by have := hi.symm.trans hf'; simp at this; exact this.1.symm
    rw [hdecl, hown] at hown2
    rw [← e1]; exact Option.some.inj (C.2.2.2.1.symm.trans hown2)
  have h6 := u_fits hfc hkC hkind (Or.inr hlay) hi (hcl.2.2.1 j hj) (by rw [hty]; exact hn) (by rw [hty]; exact hfit)
  refine W.putFinK C.1 C.2.1 C.2.2.2.1 (C.2.2.2.2.1 _ hlink) (by rw [← hdecl]; exact hi) hst hcf hname (by rw [q2]; exact h6) q1 q3 (by rw [hsl]; exact k2_hasslot (q4 j hj)) rfl rfl hd fun H' e1 e2 e3 => ?_
  exact kk _ (va_up_self _ _ _) (fun i hi => va_up_ne _ _ hi) ls H' _ hl2 (pw_putV (locs := locs) C hcl hj hH hk hl hi q1 e1 e3) (hS.put e2 e3 (hH.1 k a _ hk).2)
/-! ARRAYS -/
variable {n : Nat} {f : Nat → Int} {i x : Int}
theorem pw_iald (C : pw_C g p s m args meth c cc nL own) (hk : w k = (a, some (AI g n f))) (h : 0 ≤ i ∧ i < n ∧ i < 2147483648) (hd : decode cc pc = .ok (.iaload, 1))
    (kk : pw_G g p l e R s m args below meth c nL Q cells slots (pc + 1) lv (.int (iZ (f i.toNat)) :: st) w) : pw_G g p l e R s m args below meth c nL Q cells slots pc lv (.int (iZ i) :: .ref a :: st) w := by
  intro ls H locs hl hH hS
  refine va_iald (t0 := 0) C.1 C.2.1 C.2.2.2.2.2.2.2.1 (hH.one hk) 0 rfl rfl (iz_in h.1 h.2.1 h.2.2) hd ?_
  rw [iz_clamp ⟨by omega, h.2.2⟩]
  exact kk ls H locs hl hH hS
theorem pw_lald (C : pw_C g p s m args meth c cc nL own) (hk : w k = (a, some (AJ g n f))) (h : 0 ≤ i ∧ i < n ∧ i < 2147483648) (hd : decode cc pc = .ok (.laload, 1))
    (kk : pw_G g p l e R s m args below meth c nL Q cells slots (pc + 1) lv (.long (lZ (f i.toNat)) :: st) w) : pw_G g p l e R s m args below meth c nL Q cells slots pc lv (.int (iZ i) :: .ref a :: st) w := by
  intro ls H locs hl hH hS
  refine va_lald (t0 := 1) C.1 C.2.1 C.2.2.2.2.2.2.2.1 (hH.one hk) 0 rfl rfl (iz_in h.1 h.2.1 h.2.2) hd ?_
  rw [iz_clamp ⟨by omega, h.2.2⟩]
  exact kk ls H locs hl hH hS
theorem pw_cald (C : pw_C g p s m args meth c cc nL own) (hk : w k = (a, some (AC g n f))) (h : 0 ≤ i ∧ i < n ∧ i < 2147483648) (hd : decode cc pc = .ok (.caload, 1))
    (kk : pw_G g p l e R s m args below meth c nL Q cells slots (pc + 1) lv (.int (iZ (f i.toNat)) :: st) w) : pw_G g p l e R s m args below meth c nL Q cells slots pc lv (.int (iZ i) :: .ref a :: st) w := by
  intro ls H locs hl hH hS
  refine va_cald (t0 := 2) C.1 C.2.1 C.2.2.2.2.2.2.2.1 (hH.one hk) 0 rfl rfl (iz_in h.1 h.2.1 h.2.2) hd ?_
  rw [iz_clamp ⟨by omega, h.2.2⟩]
  exact kk ls H locs hl hH hS
theorem pw_zald (C : pw_C g p s m args meth c cc nL own) (hk : w k = (a, some (AZ g n f))) (h : 0 ≤ i ∧ i < n ∧ i < 2147483648) (hd : decode cc pc = .ok (.baload, 1))
    (kk : pw_G g p l e R s m args below meth c nL Q cells slots (pc + 1) lv (.int (iZ (f i.toNat)) :: st) w) : pw_G g p l e R s m args below meth c nL Q cells slots pc lv (.int (iZ i) :: .ref a :: st) w := by
  intro ls H locs hl hH hS
  refine va_zald (t0 := 3) C.1 C.2.1 C.2.2.2.2.2.2.2.1 (hH.one hk) 0 rfl rfl (iz_in h.1 h.2.1 h.2.2) hd ?_
  rw [iz_clamp ⟨by omega, h.2.2⟩]
  exact kk ls H locs hl hH hS
theorem pw_aald (C : pw_C g p s m args meth c cc nL own) {t : Nat} {cn : String} {fr : Nat → Option Nat} (hk : w k = (a, some (AR g t n fr))) (ht : (pw_tys g.2.1)[t]? = some (g.2.1 t, .object cn)) (h : 0 ≤ i ∧ i < n ∧ i < 2147483648) (hd : decode cc pc = .ok (.aaload, 1))
    (kk : pw_G g p l e R s m args below meth c nL Q cells slots (pc + 1) lv (va_rf (fr i.toNat) :: st) w) : pw_G g p l e R s m args below meth c nL Q cells slots pc lv (.int (iZ i) :: .ref a :: st) w := by
  intro ls H locs hl hH hS
  refine va_aldq (t0 := t) C.1 C.2.1 C.2.2.2.2.2.2.2.1 (hH.one hk) 0 rfl ht (iz_in h.1 h.2.1 h.2.2) hd ?_
  rw [iz_clamp ⟨by omega, h.2.2⟩]
  exact kk ls H locs hl hH hS
theorem pw_upd (f : Nat → Int) (j : Nat) (x : Int) (h : Int → Value) : updV (fun y => h (f y)) j (h x) = fun y => h (va_up f j x y) := by
  funext y
  by_cases hy : y = j
  · subst hy; simp [updV, va_up]
  · simp [updV, va_up, hy]
theorem pw_iast (C : pw_C g p s m args meth c cc nL own) (hk : w k = (a, some (AI g n f))) (h : 0 ≤ i ∧ i < n ∧ i < 2147483648) (hd : decode cc pc = .ok (.iastore, 1))
    (kk : ∀ w' : pw_W, w' k = (a, some (AI g n (va_up f i.toNat x))) → (∀ j, j ≠ k → w' j = w j) → pw_G g p l e R s m args below meth c nL Q cells slots (pc + 1) lv st w') : pw_G g p l e R s m args below meth c nL Q cells slots pc lv (.int (iZ x) :: .int (iZ i) :: .ref a :: st) w := by
  intro ls H locs hl hH hS
  refine W.iast C.1 C.2.1 (hH.1 k a _ hk).1 ((C.2.2.2.2.2.2.2.1.2 0 _ rfl).1 n (fun j => .int (iZ (f j)))) (fun q => by cases q) (by show ¬ (_ < 0 ∨ (arrV _ _ _).slots.size ≤ _); rw [arrV_size]; exact iz_in h.1 h.2.1 h.2.2) rfl rfl hd fun H1 e1 z oq => ?_
  refine kk _ (va_up_self _ _ _) (fun i hi => va_up_ne _ _ hi) ls H1 _ hl (hH.put hk ?_ oq) (hS.put z oq (hH.1 k a _ hk).2)
  rw [at_AI, e1, iz_clamp ⟨by omega, h.2.2⟩]
  exact congrArg some ((arrV_store (g.2.1 0) n i.toNat (fun j => Value.int (iZ (f j))) (Value.int (iZ x))).trans (congrArg (arrV (g.2.1 0) n) (pw_upd f _ x (fun z => Value.int (iZ z)))))
theorem pw_last (C : pw_C g p s m args meth c cc nL own) (hk : w k = (a, some (AJ g n f))) (h : 0 ≤ i ∧ i < n ∧ i < 2147483648) (hd : decode cc pc = .ok (.lastore, 1))
    (kk : ∀ w' : pw_W, w' k = (a, some (AJ g n (va_up f i.toNat x))) → (∀ j, j ≠ k → w' j = w j) → pw_G g p l e R s m args below meth c nL Q cells slots (pc + 1) lv st w') : pw_G g p l e R s m args below meth c nL Q cells slots pc lv (.long (lZ x) :: .int (iZ i) :: .ref a :: st) w := by
  intro ls H locs hl hH hS
  refine W.last C.1 C.2.1 (hH.1 k a _ hk).1 ((C.2.2.2.2.2.2.2.1.2 1 _ rfl).1 n (fun j => .long (lZ (f j)))) (fun q => by cases q) (by show ¬ (_ < 0 ∨ (arrV _ _ _).slots.size ≤ _); rw [arrV_size]; exact iz_in h.1 h.2.1 h.2.2) rfl rfl hd fun H1 e1 z oq => ?_
  refine kk _ (va_up_self _ _ _) (fun i hi => va_up_ne _ _ hi) ls H1 _ hl (hH.put hk ?_ oq) (hS.put z oq (hH.1 k a _ hk).2)
  rw [at_AJ, e1, iz_clamp ⟨by omega, h.2.2⟩]
  exact congrArg some ((arrV_store (g.2.1 1) n i.toNat (fun j => Value.long (lZ (f j))) (Value.long (lZ x))).trans (congrArg (arrV (g.2.1 1) n) (pw_upd f _ x (fun z => Value.long (lZ z)))))
theorem pw_cast (C : pw_C g p s m args meth c cc nL own) (hk : w k = (a, some (AC g n f))) (h : 0 ≤ i ∧ i < n ∧ i < 2147483648) (hx : narrow .char (.int (iZ x)) = .int (iZ x)) (hd : decode cc pc = .ok (.castore, 1))
    (kk : ∀ w' : pw_W, w' k = (a, some (AC g n (va_up f i.toNat x))) → (∀ j, j ≠ k → w' j = w j) → pw_G g p l e R s m args below meth c nL Q cells slots (pc + 1) lv st w') : pw_G g p l e R s m args below meth c nL Q cells slots pc lv (.int (iZ x) :: .int (iZ i) :: .ref a :: st) w := by
  intro ls H locs hl hH hS
  refine W.cast C.1 C.2.1 (hH.1 k a _ hk).1 ((C.2.2.2.2.2.2.2.1.2 2 _ rfl).1 n (fun j => .int (iZ (f j)))) (fun q => by cases q) (by show ¬ (_ < 0 ∨ (arrV _ _ _).slots.size ≤ _); rw [arrV_size]; exact iz_in h.1 h.2.1 h.2.2) rfl rfl hd fun H1 e1 z oq => ?_
  refine kk _ (va_up_self _ _ _) (fun i hi => va_up_ne _ _ hi) ls H1 _ hl (hH.put hk ?_ oq) (hS.put z oq (hH.1 k a _ hk).2)
  rw [at_AC, e1, iz_clamp ⟨by omega, h.2.2⟩, hx]
  exact congrArg some ((arrV_store (g.2.1 2) n i.toNat (fun j => Value.int (iZ (f j))) (Value.int (iZ x))).trans (congrArg (arrV (g.2.1 2) n) (pw_upd f _ x (fun z => Value.int (iZ z)))))
theorem pw_zast (C : pw_C g p s m args meth c cc nL own) (hk : w k = (a, some (AZ g n f))) (h : 0 ≤ i ∧ i < n ∧ i < 2147483648) (hx : narrow .boolean (.int (iZ x)) = .int (iZ x)) (hd : decode cc pc = .ok (.bastore, 1))
    (kk : ∀ w' : pw_W, w' k = (a, some (AZ g n (va_up f i.toNat x))) → (∀ j, j ≠ k → w' j = w j) → pw_G g p l e R s m args below meth c nL Q cells slots (pc + 1) lv st w') : pw_G g p l e R s m args below meth c nL Q cells slots pc lv (.int (iZ x) :: .int (iZ i) :: .ref a :: st) w := by
  intro ls H locs hl hH hS
  refine W.zast C.1 C.2.1 (hH.1 k a _ hk).1 ((C.2.2.2.2.2.2.2.1.2 3 _ rfl).1 n (fun j => .int (iZ (f j)))) (fun q => by cases q) (by show ¬ (_ < 0 ∨ (arrV _ _ _).slots.size ≤ _); rw [arrV_size]; exact iz_in h.1 h.2.1 h.2.2) rfl rfl hd fun H1 e1 z oq => ?_
  refine kk _ (va_up_self _ _ _) (fun i hi => va_up_ne _ _ hi) ls H1 _ hl (hH.put hk ?_ oq) (hS.put z oq (hH.1 k a _ hk).2)
  rw [at_AZ, e1, iz_clamp ⟨by omega, h.2.2⟩, hx]
  exact congrArg some ((arrV_store (g.2.1 3) n i.toNat (fun j => Value.int (iZ (f j))) (Value.int (iZ x))).trans (congrArg (arrV (g.2.1 3) n) (pw_upd f _ x (fun z => Value.int (iZ z)))))
theorem pw_alen (C : pw_C g p s m args meth c cc nL own) {t : Nat} {y : vp_A} {ty : FieldType} (hk : w k = (a, some (.inl (g.2.1 t, y)))) (ht : (pw_tys g.2.1)[t]? = some (g.2.1 t, ty)) (hd : decode cc pc = .ok (.arraylength, 1))
    (kk : pw_G g p l e R s m args below meth c nL Q cells slots (pc + 1) lv (.int (iZ y.1) :: st) w) : pw_G g p l e R s m args below meth c nL Q cells slots pc lv (.ref a :: st) w := by
  intro ls H locs hl hH hS
  exact va_alen (t0 := t) C.1 C.2.1 C.2.2.2.2.2.2.2.1 (hH.one hk) 0 rfl ht (by first | exact Int32.ofInt_eq_ofNat.symm | rfl) hd (kk ls H locs hl hH hS)
/-! NEW -/
theorem pw_new (k : Nat) (C : pw_C g p s m args meth c cc nL own) (hcl : pw_CL ci q ty0) (hlink : Cond.classLink own idx q.1 ∈ pw_T) (hinst : Cond.instantiable q.1 q.2.2 ∈ pw_T) (hini : Cond.initialized q.1 ∈ pw_T) (hfs : ∀ j, j < q.2.2 → defaultValue (ty0 j) = vp_V fs j) (hc : cells + 1 ≤ R.cells) (hsl : slots + q.2.2 ≤ R.slots) (hd : decode cc pc = .ok (.new idx, 3))
    (kk : ∀ (a : Nat) (w' : pw_W), w' k = (a, some (OB ci fs)) → (∀ i, i ≠ k → w' i = w i) → pw_G g p l e R s m args below meth c nL Q (cells + 1) (slots + q.2.2) (pc + 3) lv (.ref a :: st) w') : pw_G g p l e R s m args below meth c nL Q cells slots pc lv st w := by
  intro ls H locs hl hH hS
  have hKn := C.2.2.2.2.2.2.2.1.1 ci _ hcl.1
  refine W.newcK C.1 C.2.1 C.2.2.2.1 (C.2.2.2.2.1 _ hlink) (C.2.2.2.2.1 _ hinst) (C.2.2.2.2.1 _ hini) rfl hd hc hsl hKn.2.1 rfl fun H1 kC hkC e1 z1 o1 => ?_
  exact kk H.size _ (va_up_self _ _ _) (fun i hi => va_up_ne _ _ hi) ls H1 locs hl (hH.new (e := OB ci fs) o1 ⟨_, hcl.1, (u_born ty0 C.2.2.2.2.1 hcl.2.1 hKn hkC e1 hcl.2.2.1).to hfs⟩ (Nat.le_trans C.2.2.2.2.2.2.1 hS.1) k) ⟨Nat.le_trans hS.1 (by omega), fun x h1 h2 => (o1 x (Nat.lt_of_lt_of_le h1 hS.1)).trans (hS.2.1 x h1 h2), hS.2.2⟩
theorem pw_newA (k t : Nat) (C : pw_C g p s m args meth c cc nL own) {atype : ArrayType} {e0 : va_E} {N : Nat} (harr : Cond.arrayClass (newarray.typeOf atype) ∈ pw_T) (ht : (pw_tys g.2.1)[t]? = some (g.2.1 t, newarray.typeOf atype)) (he : ∀ H1 : Heap, H1[H1.size - 1]? = some (arrV (g.2.1 t) N (fun _ => defaultValue (newarray.typeOf atype))) → va_at g.1 vwCl (H1.size - 1, e0) H1) {i : Int} (hi : i = (N : Int)) (hN : N < 2147483648) (hbytes : N * componentBytes (newarray.typeOf atype) ≤ 536870912) (hc : cells + 1 ≤ R.cells) (hsl : slots + N ≤ R.slots) (hd : decode cc pc = .ok (.newarray atype, 2))
    (kk : ∀ (a : Nat) (w' : pw_W), w' k = (a, some e0) → (∀ i, i ≠ k → w' i = w i) → pw_G g p l e R s m args below meth c nL Q (cells + 1) (slots + N) (pc + 2) lv (.ref a :: st) w') : pw_G g p l e R s m args below meth c nL Q cells slots pc lv (.int (iZ i) :: st) w := by
  intro ls H locs hl hH hS
  subst hi
  have hin : inI (N : Int) := ⟨by omega, by omega⟩
  refine va_newaK C.1 C.2.1 (C.2.2.2.2.1 _ harr) rfl hd rfl (fun q => ?_) (N := N) ?_ hbytes hc hsl rfl fun H1 cA e1 z1 o1 hAr hNm => ?_
  · rw [← iz_0] at q
    have := (iz_lt hin (b := 0) ⟨by decide, by decide⟩).mp q
    omega
  · rw [iz_clamp hin]; omega
  · have hcA : cA = g.2.1 t := by
      have h2 := (C.2.2.2.2.2.2.2.1.2 t _ ht).2
      have h3 : s.vm.findClass ("[" ++ (newarray.typeOf atype).toString) = some (g.2.1 t) := by
        revert h2
        cases atype <;> exact fun h => h
      exact Option.some.inj (hNm.symm.trans h3)
    subst hcA
    have he1 := he H1 (by rw [z1]; exact e1)
    rw [z1] at he1
    exact kk H.size _ (va_up_self _ _ _) (fun i hi => va_up_ne _ _ hi) ls H1 locs hl (hH.new o1 he1 (Nat.le_trans C.2.2.2.2.2.2.1 hS.1) k) ⟨Nat.le_trans hS.1 (by omega), fun x h1 h2 => (o1 x (Nat.lt_of_lt_of_le h1 hS.1)).trans (hS.2.1 x h1 h2), hS.2.2⟩
end
end
