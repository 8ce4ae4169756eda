section
-- ===== PART A: goes FIRST, ahead of the names: the tables' words, and 'selects' of the private methods out of them =====
/-- a private method of a class that the tables say can be made, by its rows of tables_1 -/
def lw_okq (q : MethodName × Nat) : Prop := (q.1.cls ≠ "java/lang/invoke/MethodHandle" ∧ q.1.cls ≠ "java/lang/invoke/VarHandle") ∧ Cond.instantiable q.1.cls q.2 ∈ tables_1 ∧ Cond.privateMethod q.1 ∈ tables_1 ∧ Cond.instanceMethod q.1 ∈ tables_1
theorem lw_p0 : lw_okq (⟨"AmberGrains$World", "fillLetters", "(I)V"⟩, 15) := ⟨⟨by decide +kernel, by decide +kernel⟩, List.mem_of_getElem? (i := 27) (by decide +kernel), List.mem_of_getElem? (i := 260) (by decide +kernel), List.mem_of_getElem? (i := 261) (by decide +kernel)⟩
theorem lw_p1 : lw_okq (⟨"AmberGrains$World", "twinsShare", "(I)I"⟩, 15) := ⟨⟨by decide +kernel, by decide +kernel⟩, List.mem_of_getElem? (i := 27) (by decide +kernel), List.mem_of_getElem? (i := 268) (by decide +kernel), List.mem_of_getElem? (i := 269) (by decide +kernel)⟩
theorem lw_p2 : lw_okq (⟨"AmberGrains", "blowOf", "(I)I"⟩, 14) := ⟨⟨by decide +kernel, by decide +kernel⟩, List.mem_of_getElem? (i := 19) (by decide +kernel), List.mem_of_getElem? (i := 275) (by decide +kernel), List.mem_of_getElem? (i := 276) (by decide +kernel)⟩
theorem lw_p3 : lw_okq (⟨"AmberGrains", "trialComes", "(II)I"⟩, 14) := ⟨⟨by decide +kernel, by decide +kernel⟩, List.mem_of_getElem? (i := 19) (by decide +kernel), List.mem_of_getElem? (i := 289) (by decide +kernel), List.mem_of_getElem? (i := 290) (by decide +kernel)⟩
theorem lw_p4 : lw_okq (⟨"AmberGrains$World", "bringUp", "()V"⟩, 15) := ⟨⟨by decide +kernel, by decide +kernel⟩, List.mem_of_getElem? (i := 27) (by decide +kernel), List.mem_of_getElem? (i := 297) (by decide +kernel), List.mem_of_getElem? (i := 298) (by decide +kernel)⟩
theorem lw_p5 : lw_okq (⟨"AmberGrains$World", "drift", "()V"⟩, 15) := ⟨⟨by decide +kernel, by decide +kernel⟩, List.mem_of_getElem? (i := 27) (by decide +kernel), List.mem_of_getElem? (i := 306) (by decide +kernel), List.mem_of_getElem? (i := 307) (by decide +kernel)⟩
theorem lw_p6 : lw_okq (⟨"AmberGrains", "newsOf", "(I)I"⟩, 14) := ⟨⟨by decide +kernel, by decide +kernel⟩, List.mem_of_getElem? (i := 19) (by decide +kernel), List.mem_of_getElem? (i := 310) (by decide +kernel), List.mem_of_getElem? (i := 311) (by decide +kernel)⟩
theorem lw_p7 : lw_okq (⟨"AmberGrains$Reader", "clause", "()V"⟩, 7) := ⟨⟨by decide +kernel, by decide +kernel⟩, List.mem_of_getElem? (i := 123) (by decide +kernel), List.mem_of_getElem? (i := 367) (by decide +kernel), List.mem_of_getElem? (i := 368) (by decide +kernel)⟩
theorem lw_p8 : lw_okq (⟨"AmberGrains$Reader", "sign", "()I"⟩, 7) := ⟨⟨by decide +kernel, by decide +kernel⟩, List.mem_of_getElem? (i := 123) (by decide +kernel), List.mem_of_getElem? (i := 371) (by decide +kernel), List.mem_of_getElem? (i := 372) (by decide +kernel)⟩
theorem lw_p9 : lw_okq (⟨"AmberGrains$Reader", "letters", "(Ljava/lang/String;)V"⟩, 7) := ⟨⟨by decide +kernel, by decide +kernel⟩, List.mem_of_getElem? (i := 123) (by decide +kernel), List.mem_of_getElem? (i := 376) (by decide +kernel), List.mem_of_getElem? (i := 377) (by decide +kernel)⟩
theorem lw_p10 : lw_okq (⟨"AmberGrains$Reader", "number", "()I"⟩, 7) := ⟨⟨by decide +kernel, by decide +kernel⟩, List.mem_of_getElem? (i := 123) (by decide +kernel), List.mem_of_getElem? (i := 419) (by decide +kernel), List.mem_of_getElem? (i := 420) (by decide +kernel)⟩
theorem lw_p11 : lw_okq (⟨"AmberGrains$Reader", "either", "(I)V"⟩, 7) := ⟨⟨by decide +kernel, by decide +kernel⟩, List.mem_of_getElem? (i := 123) (by decide +kernel), List.mem_of_getElem? (i := 426) (by decide +kernel), List.mem_of_getElem? (i := 427) (by decide +kernel)⟩
theorem lw_p12 : lw_okq (⟨"AmberGrains$Reader", "single", "(I)V"⟩, 7) := ⟨⟨by decide +kernel, by decide +kernel⟩, List.mem_of_getElem? (i := 123) (by decide +kernel), List.mem_of_getElem? (i := 430) (by decide +kernel), List.mem_of_getElem? (i := 431) (by decide +kernel)⟩
theorem lw_p13 : lw_okq (⟨"AmberGrains$Reader", "test", "()V"⟩, 7) := ⟨⟨by decide +kernel, by decide +kernel⟩, List.mem_of_getElem? (i := 123) (by decide +kernel), List.mem_of_getElem? (i := 435) (by decide +kernel), List.mem_of_getElem? (i := 436) (by decide +kernel)⟩
theorem lw_p14 : lw_okq (⟨"AmberGrains$Reader", "step", "(III)V"⟩, 7) := ⟨⟨by decide +kernel, by decide +kernel⟩, List.mem_of_getElem? (i := 123) (by decide +kernel), List.mem_of_getElem? (i := 497) (by decide +kernel), List.mem_of_getElem? (i := 498) (by decide +kernel)⟩
theorem lw_p15 : lw_okq (⟨"AmberGrains", "trialFromFinderAt", "(II)V"⟩, 14) := ⟨⟨by decide +kernel, by decide +kernel⟩, List.mem_of_getElem? (i := 19) (by decide +kernel), List.mem_of_getElem? (i := 564) (by decide +kernel), List.mem_of_getElem? (i := 565) (by decide +kernel)⟩
def lw_privs_1 : List (MethodName × Nat) := [(⟨"AmberGrains$World", "fillLetters", "(I)V"⟩, 15), (⟨"AmberGrains$World", "twinsShare", "(I)I"⟩, 15), (⟨"AmberGrains", "blowOf", "(I)I"⟩, 14), (⟨"AmberGrains", "trialComes", "(II)I"⟩, 14), (⟨"AmberGrains$World", "bringUp", "()V"⟩, 15), (⟨"AmberGrains$World", "drift", "()V"⟩, 15), (⟨"AmberGrains", "newsOf", "(I)I"⟩, 14), (⟨"AmberGrains$Reader", "clause", "()V"⟩, 7), (⟨"AmberGrains$Reader", "sign", "()I"⟩, 7), (⟨"AmberGrains$Reader", "letters", "(Ljava/lang/String;)V"⟩, 7), (⟨"AmberGrains$Reader", "number", "()I"⟩, 7), (⟨"AmberGrains$Reader", "either", "(I)V"⟩, 7), (⟨"AmberGrains$Reader", "single", "(I)V"⟩, 7), (⟨"AmberGrains$Reader", "test", "()V"⟩, 7), (⟨"AmberGrains$Reader", "step", "(III)V"⟩, 7), (⟨"AmberGrains", "trialFromFinderAt", "(II)V"⟩, 14)]
theorem lw_r1 : ∀ q ∈ lw_privs_1, lw_okq q := List.forall_mem_cons.mpr ⟨lw_p0, List.forall_mem_cons.mpr ⟨lw_p1, List.forall_mem_cons.mpr ⟨lw_p2, List.forall_mem_cons.mpr ⟨lw_p3, List.forall_mem_cons.mpr ⟨lw_p4, List.forall_mem_cons.mpr ⟨lw_p5, List.forall_mem_cons.mpr ⟨lw_p6, List.forall_mem_cons.mpr ⟨lw_p7, List.forall_mem_cons.mpr ⟨lw_p8, List.forall_mem_cons.mpr ⟨lw_p9, List.forall_mem_cons.mpr ⟨lw_p10, List.forall_mem_cons.mpr ⟨lw_p11, List.forall_mem_cons.mpr ⟨lw_p12, List.forall_mem_cons.mpr ⟨lw_p13, List.forall_mem_cons.mpr ⟨lw_p14, List.forall_mem_cons.mpr ⟨lw_p15, fun _ h => absurd h List.not_mem_nil⟩⟩⟩⟩⟩⟩⟩⟩⟩⟩⟩⟩⟩⟩⟩⟩
theorem lw_p16 : lw_okq (⟨"AmberGrains", "trialIsAsSeen", "()Z"⟩, 14) := ⟨⟨by decide +kernel, by decide +kernel⟩, List.mem_of_getElem? (i := 19) (by decide +kernel), List.mem_of_getElem? (i := 584) (by decide +kernel), List.mem_of_getElem? (i := 585) (by decide +kernel)⟩
theorem lw_p17 : lw_okq (⟨"AmberGrains", "trialIsAsSeenOn", "(I)Z"⟩, 14) := ⟨⟨by decide +kernel, by decide +kernel⟩, List.mem_of_getElem? (i := 19) (by decide +kernel), List.mem_of_getElem? (i := 593) (by decide +kernel), List.mem_of_getElem? (i := 594) (by decide +kernel)⟩
theorem lw_p18 : lw_okq (⟨"AmberGrains", "trialDoes", "(II)V"⟩, 14) := ⟨⟨by decide +kernel, by decide +kernel⟩, List.mem_of_getElem? (i := 19) (by decide +kernel), List.mem_of_getElem? (i := 621) (by decide +kernel), List.mem_of_getElem? (i := 622) (by decide +kernel)⟩
theorem lw_p19 : lw_okq (⟨"AmberGrains$Voice", "from", "(IIII)I"⟩, 5) := ⟨⟨by decide +kernel, by decide +kernel⟩, List.mem_of_getElem? (i := 154) (by decide +kernel), List.mem_of_getElem? (i := 670) (by decide +kernel), List.mem_of_getElem? (i := 671) (by decide +kernel)⟩
theorem lw_p20 : lw_okq (⟨"AmberGrains$Voice", "body", "(III)I"⟩, 5) := ⟨⟨by decide +kernel, by decide +kernel⟩, List.mem_of_getElem? (i := 154) (by decide +kernel), List.mem_of_getElem? (i := 676) (by decide +kernel), List.mem_of_getElem? (i := 677) (by decide +kernel)⟩
theorem lw_p21 : lw_okq (⟨"AmberGrainsModel", "isOne", "(I)Z"⟩, 28) := ⟨⟨by decide +kernel, by decide +kernel⟩, List.mem_of_getElem? (i := 727) (by decide +kernel), List.mem_of_getElem? (i := 844) (by decide +kernel), List.mem_of_getElem? (i := 845) (by decide +kernel)⟩
theorem lw_p22 : lw_okq (⟨"AmberGrainsModel", "one", "(II)I"⟩, 28) := ⟨⟨by decide +kernel, by decide +kernel⟩, List.mem_of_getElem? (i := 727) (by decide +kernel), List.mem_of_getElem? (i := 848) (by decide +kernel), List.mem_of_getElem? (i := 849) (by decide +kernel)⟩
theorem lw_p23 : lw_okq (⟨"AmberGrainsModel", "load", "(I)I"⟩, 28) := ⟨⟨by decide +kernel, by decide +kernel⟩, List.mem_of_getElem? (i := 727) (by decide +kernel), List.mem_of_getElem? (i := 852) (by decide +kernel), List.mem_of_getElem? (i := 853) (by decide +kernel)⟩
theorem lw_p24 : lw_okq (⟨"AmberGrainsModel", "readFor", "(I)V"⟩, 28) := ⟨⟨by decide +kernel, by decide +kernel⟩, List.mem_of_getElem? (i := 727) (by decide +kernel), List.mem_of_getElem? (i := 856) (by decide +kernel), List.mem_of_getElem? (i := 857) (by decide +kernel)⟩
theorem lw_p25 : lw_okq (⟨"AmberGrainsModel", "readAll", "()Z"⟩, 28) := ⟨⟨by decide +kernel, by decide +kernel⟩, List.mem_of_getElem? (i := 727) (by decide +kernel), List.mem_of_getElem? (i := 860) (by decide +kernel), List.mem_of_getElem? (i := 861) (by decide +kernel)⟩
theorem lw_p26 : lw_okq (⟨"AmberGrainsModel", "clause", "()V"⟩, 28) := ⟨⟨by decide +kernel, by decide +kernel⟩, List.mem_of_getElem? (i := 727) (by decide +kernel), List.mem_of_getElem? (i := 864) (by decide +kernel), List.mem_of_getElem? (i := 865) (by decide +kernel)⟩
theorem lw_p27 : lw_okq (⟨"AmberGrainsModel", "isAt", "(I)Z"⟩, 28) := ⟨⟨by decide +kernel, by decide +kernel⟩, List.mem_of_getElem? (i := 727) (by decide +kernel), List.mem_of_getElem? (i := 868) (by decide +kernel), List.mem_of_getElem? (i := 869) (by decide +kernel)⟩
theorem lw_p28 : lw_okq (⟨"AmberGrainsModel", "takes", "(I)V"⟩, 28) := ⟨⟨by decide +kernel, by decide +kernel⟩, List.mem_of_getElem? (i := 727) (by decide +kernel), List.mem_of_getElem? (i := 872) (by decide +kernel), List.mem_of_getElem? (i := 873) (by decide +kernel)⟩
theorem lw_p29 : lw_okq (⟨"AmberGrainsModel", "number", "()I"⟩, 28) := ⟨⟨by decide +kernel, by decide +kernel⟩, List.mem_of_getElem? (i := 727) (by decide +kernel), List.mem_of_getElem? (i := 876) (by decide +kernel), List.mem_of_getElem? (i := 877) (by decide +kernel)⟩
theorem lw_p30 : lw_okq (⟨"AmberGrainsModel", "isDigit", "()Z"⟩, 28) := ⟨⟨by decide +kernel, by decide +kernel⟩, List.mem_of_getElem? (i := 727) (by decide +kernel), List.mem_of_getElem? (i := 880) (by decide +kernel), List.mem_of_getElem? (i := 881) (by decide +kernel)⟩
theorem lw_p31 : lw_okq (⟨"AmberGrainsModel", "any", "()Z"⟩, 28) := ⟨⟨by decide +kernel, by decide +kernel⟩, List.mem_of_getElem? (i := 727) (by decide +kernel), List.mem_of_getElem? (i := 884) (by decide +kernel), List.mem_of_getElem? (i := 885) (by decide +kernel)⟩
def lw_privs_2 : List (MethodName × Nat) := [(⟨"AmberGrains", "trialIsAsSeen", "()Z"⟩, 14), (⟨"AmberGrains", "trialIsAsSeenOn", "(I)Z"⟩, 14), (⟨"AmberGrains", "trialDoes", "(II)V"⟩, 14), (⟨"AmberGrains$Voice", "from", "(IIII)I"⟩, 5), (⟨"AmberGrains$Voice", "body", "(III)I"⟩, 5), (⟨"AmberGrainsModel", "isOne", "(I)Z"⟩, 28), (⟨"AmberGrainsModel", "one", "(II)I"⟩, 28), (⟨"AmberGrainsModel", "load", "(I)I"⟩, 28), (⟨"AmberGrainsModel", "readFor", "(I)V"⟩, 28), (⟨"AmberGrainsModel", "readAll", "()Z"⟩, 28), (⟨"AmberGrainsModel", "clause", "()V"⟩, 28), (⟨"AmberGrainsModel", "isAt", "(I)Z"⟩, 28), (⟨"AmberGrainsModel", "takes", "(I)V"⟩, 28), (⟨"AmberGrainsModel", "number", "()I"⟩, 28), (⟨"AmberGrainsModel", "isDigit", "()Z"⟩, 28), (⟨"AmberGrainsModel", "any", "()Z"⟩, 28)]
theorem lw_r2 : ∀ q ∈ lw_privs_2, lw_okq q := List.forall_mem_cons.mpr ⟨lw_p16, List.forall_mem_cons.mpr ⟨lw_p17, List.forall_mem_cons.mpr ⟨lw_p18, List.forall_mem_cons.mpr ⟨lw_p19, List.forall_mem_cons.mpr ⟨lw_p20, List.forall_mem_cons.mpr ⟨lw_p21, List.forall_mem_cons.mpr ⟨lw_p22, List.forall_mem_cons.mpr ⟨lw_p23, List.forall_mem_cons.mpr ⟨lw_p24, List.forall_mem_cons.mpr ⟨lw_p25, List.forall_mem_cons.mpr ⟨lw_p26, List.forall_mem_cons.mpr ⟨lw_p27, List.forall_mem_cons.mpr ⟨lw_p28, List.forall_mem_cons.mpr ⟨lw_p29, List.forall_mem_cons.mpr ⟨lw_p30, List.forall_mem_cons.mpr ⟨lw_p31, fun _ h => absurd h List.not_mem_nil⟩⟩⟩⟩⟩⟩⟩⟩⟩⟩⟩⟩⟩⟩⟩⟩
theorem lw_p32 : lw_okq (⟨"AmberGrainsModel", "both", "()Z"⟩, 28) := ⟨⟨by decide +kernel, by decide +kernel⟩, List.mem_of_getElem? (i := 727) (by decide +kernel), List.mem_of_getElem? (i := 888) (by decide +kernel), List.mem_of_getElem? (i := 889) (by decide +kernel)⟩
theorem lw_p33 : lw_okq (⟨"AmberGrainsModel", "factor", "()Z"⟩, 28) := ⟨⟨by decide +kernel, by decide +kernel⟩, List.mem_of_getElem? (i := 727) (by decide +kernel), List.mem_of_getElem? (i := 892) (by decide +kernel), List.mem_of_getElem? (i := 893) (by decide +kernel)⟩
theorem lw_p34 : lw_okq (⟨"AmberGrainsModel", "test", "()Z"⟩, 28) := ⟨⟨by decide +kernel, by decide +kernel⟩, List.mem_of_getElem? (i := 727) (by decide +kernel), List.mem_of_getElem? (i := 896) (by decide +kernel), List.mem_of_getElem? (i := 897) (by decide +kernel)⟩
theorem lw_p35 : lw_okq (⟨"AmberGrainsModel", "isAnotherTwin", "(I)Z"⟩, 28) := ⟨⟨by decide +kernel, by decide +kernel⟩, List.mem_of_getElem? (i := 727) (by decide +kernel), List.mem_of_getElem? (i := 900) (by decide +kernel), List.mem_of_getElem? (i := 901) (by decide +kernel)⟩
theorem lw_p36 : lw_okq (⟨"AmberGrainsModel", "isAs", "(II)Z"⟩, 28) := ⟨⟨by decide +kernel, by decide +kernel⟩, List.mem_of_getElem? (i := 727) (by decide +kernel), List.mem_of_getElem? (i := 904) (by decide +kernel), List.mem_of_getElem? (i := 905) (by decide +kernel)⟩
theorem lw_p37 : lw_okq (⟨"AmberGrainsModel", "blow", "(I)I"⟩, 28) := ⟨⟨by decide +kernel, by decide +kernel⟩, List.mem_of_getElem? (i := 727) (by decide +kernel), List.mem_of_getElem? (i := 909) (by decide +kernel), List.mem_of_getElem? (i := 910) (by decide +kernel)⟩
theorem lw_p38 : lw_okq (⟨"AmberGrainsModel", "comes", "(II)I"⟩, 28) := ⟨⟨by decide +kernel, by decide +kernel⟩, List.mem_of_getElem? (i := 727) (by decide +kernel), List.mem_of_getElem? (i := 913) (by decide +kernel), List.mem_of_getElem? (i := 914) (by decide +kernel)⟩
theorem lw_p39 : lw_okq (⟨"AmberGrainsModel", "day", "()V"⟩, 28) := ⟨⟨by decide +kernel, by decide +kernel⟩, List.mem_of_getElem? (i := 727) (by decide +kernel), List.mem_of_getElem? (i := 917) (by decide +kernel), List.mem_of_getElem? (i := 918) (by decide +kernel)⟩
theorem lw_p40 : lw_okq (⟨"AmberGrainsModel", "bringUp", "()V"⟩, 28) := ⟨⟨by decide +kernel, by decide +kernel⟩, List.mem_of_getElem? (i := 727) (by decide +kernel), List.mem_of_getElem? (i := 921) (by decide +kernel), List.mem_of_getElem? (i := 922) (by decide +kernel)⟩
theorem lw_p41 : lw_okq (⟨"AmberGrainsModel", "loads", "()I"⟩, 28) := ⟨⟨by decide +kernel, by decide +kernel⟩, List.mem_of_getElem? (i := 727) (by decide +kernel), List.mem_of_getElem? (i := 925) (by decide +kernel), List.mem_of_getElem? (i := 926) (by decide +kernel)⟩
theorem lw_p42 : lw_okq (⟨"AmberGrainsModel", "roomNow", "()I"⟩, 28) := ⟨⟨by decide +kernel, by decide +kernel⟩, List.mem_of_getElem? (i := 727) (by decide +kernel), List.mem_of_getElem? (i := 929) (by decide +kernel), List.mem_of_getElem? (i := 930) (by decide +kernel)⟩
theorem lw_p43 : lw_okq (⟨"AmberGrainsModel", "change", "(III)I"⟩, 28) := ⟨⟨by decide +kernel, by decide +kernel⟩, List.mem_of_getElem? (i := 727) (by decide +kernel), List.mem_of_getElem? (i := 933) (by decide +kernel), List.mem_of_getElem? (i := 934) (by decide +kernel)⟩
theorem lw_p44 : lw_okq (⟨"AmberGrainsModel", "news", "(I)I"⟩, 28) := ⟨⟨by decide +kernel, by decide +kernel⟩, List.mem_of_getElem? (i := 727) (by decide +kernel), List.mem_of_getElem? (i := 940) (by decide +kernel), List.mem_of_getElem? (i := 941) (by decide +kernel)⟩
theorem lw_p45 : lw_okq (⟨"AmberGrainsModel", "says", "(I)V"⟩, 28) := ⟨⟨by decide +kernel, by decide +kernel⟩, List.mem_of_getElem? (i := 727) (by decide +kernel), List.mem_of_getElem? (i := 944) (by decide +kernel), List.mem_of_getElem? (i := 945) (by decide +kernel)⟩
theorem lw_p46 : lw_okq (⟨"AmberGrainsModel", "howMany", "(I)I"⟩, 28) := ⟨⟨by decide +kernel, by decide +kernel⟩, List.mem_of_getElem? (i := 727) (by decide +kernel), List.mem_of_getElem? (i := 952) (by decide +kernel), List.mem_of_getElem? (i := 953) (by decide +kernel)⟩
theorem lw_p47 : lw_okq (⟨"AmberGrainsModel", "which", "(I)I"⟩, 28) := ⟨⟨by decide +kernel, by decide +kernel⟩, List.mem_of_getElem? (i := 727) (by decide +kernel), List.mem_of_getElem? (i := 987) (by decide +kernel), List.mem_of_getElem? (i := 988) (by decide +kernel)⟩
def lw_privs_3 : List (MethodName × Nat) := [(⟨"AmberGrainsModel", "both", "()Z"⟩, 28), (⟨"AmberGrainsModel", "factor", "()Z"⟩, 28), (⟨"AmberGrainsModel", "test", "()Z"⟩, 28), (⟨"AmberGrainsModel", "isAnotherTwin", "(I)Z"⟩, 28), (⟨"AmberGrainsModel", "isAs", "(II)Z"⟩, 28), (⟨"AmberGrainsModel", "blow", "(I)I"⟩, 28), (⟨"AmberGrainsModel", "comes", "(II)I"⟩, 28), (⟨"AmberGrainsModel", "day", "()V"⟩, 28), (⟨"AmberGrainsModel", "bringUp", "()V"⟩, 28), (⟨"AmberGrainsModel", "loads", "()I"⟩, 28), (⟨"AmberGrainsModel", "roomNow", "()I"⟩, 28), (⟨"AmberGrainsModel", "change", "(III)I"⟩, 28), (⟨"AmberGrainsModel", "news", "(I)I"⟩, 28), (⟨"AmberGrainsModel", "says", "(I)V"⟩, 28), (⟨"AmberGrainsModel", "howMany", "(I)I"⟩, 28), (⟨"AmberGrainsModel", "which", "(I)I"⟩, 28)]
theorem lw_r3 : ∀ q ∈ lw_privs_3, lw_okq q := List.forall_mem_cons.mpr ⟨lw_p32, List.forall_mem_cons.mpr ⟨lw_p33, List.forall_mem_cons.mpr ⟨lw_p34, List.forall_mem_cons.mpr ⟨lw_p35, List.forall_mem_cons.mpr ⟨lw_p36, List.forall_mem_cons.mpr ⟨lw_p37, List.forall_mem_cons.mpr ⟨lw_p38, List.forall_mem_cons.mpr ⟨lw_p39, List.forall_mem_cons.mpr ⟨lw_p40, List.forall_mem_cons.mpr ⟨lw_p41, List.forall_mem_cons.mpr ⟨lw_p42, List.forall_mem_cons.mpr ⟨lw_p43, List.forall_mem_cons.mpr ⟨lw_p44, List.forall_mem_cons.mpr ⟨lw_p45, List.forall_mem_cons.mpr ⟨lw_p46, List.forall_mem_cons.mpr ⟨lw_p47, fun _ h => absurd h List.not_mem_nil⟩⟩⟩⟩⟩⟩⟩⟩⟩⟩⟩⟩⟩⟩⟩⟩
theorem lw_p48 : lw_okq (⟨"AmberGrainsModel", "days", "(I)V"⟩, 28) := ⟨⟨by decide +kernel, by decide +kernel⟩, List.mem_of_getElem? (i := 727) (by decide +kernel), List.mem_of_getElem? (i := 995) (by decide +kernel), List.mem_of_getElem? (i := 996) (by decide +kernel)⟩
theorem lw_p49 : lw_okq (⟨"AmberGrainsModel", "fits", "(III)I"⟩, 28) := ⟨⟨by decide +kernel, by decide +kernel⟩, List.mem_of_getElem? (i := 727) (by decide +kernel), List.mem_of_getElem? (i := 1017) (by decide +kernel), List.mem_of_getElem? (i := 1018) (by decide +kernel)⟩
theorem lw_p50 : lw_okq (⟨"AmberGrainsModel", "isAllSeen", "()Z"⟩, 28) := ⟨⟨by decide +kernel, by decide +kernel⟩, List.mem_of_getElem? (i := 727) (by decide +kernel), List.mem_of_getElem? (i := 1021) (by decide +kernel), List.mem_of_getElem? (i := 1022) (by decide +kernel)⟩
theorem lw_p51 : lw_okq (⟨"AmberGrainsModel", "all", "(III)I"⟩, 28) := ⟨⟨by decide +kernel, by decide +kernel⟩, List.mem_of_getElem? (i := 727) (by decide +kernel), List.mem_of_getElem? (i := 1065) (by decide +kernel), List.mem_of_getElem? (i := 1066) (by decide +kernel)⟩
theorem lw_p52 : lw_okq (⟨"AmberGrainsModel", "byKind", "(IIII)I"⟩, 28) := ⟨⟨by decide +kernel, by decide +kernel⟩, List.mem_of_getElem? (i := 727) (by decide +kernel), List.mem_of_getElem? (i := 1069) (by decide +kernel), List.mem_of_getElem? (i := 1070) (by decide +kernel)⟩
theorem lw_p53 : lw_okq (⟨"AmberGrainsModel", "body", "(I)I"⟩, 28) := ⟨⟨by decide +kernel, by decide +kernel⟩, List.mem_of_getElem? (i := 727) (by decide +kernel), List.mem_of_getElem? (i := 1073) (by decide +kernel), List.mem_of_getElem? (i := 1074) (by decide +kernel)⟩
def lw_privs_4 : List (MethodName × Nat) := [(⟨"AmberGrainsModel", "days", "(I)V"⟩, 28), (⟨"AmberGrainsModel", "fits", "(III)I"⟩, 28), (⟨"AmberGrainsModel", "isAllSeen", "()Z"⟩, 28), (⟨"AmberGrainsModel", "all", "(III)I"⟩, 28), (⟨"AmberGrainsModel", "byKind", "(IIII)I"⟩, 28), (⟨"AmberGrainsModel", "body", "(I)I"⟩, 28)]
theorem lw_r4 : ∀ q ∈ lw_privs_4, lw_okq q := List.forall_mem_cons.mpr ⟨lw_p48, List.forall_mem_cons.mpr ⟨lw_p49, List.forall_mem_cons.mpr ⟨lw_p50, List.forall_mem_cons.mpr ⟨lw_p51, List.forall_mem_cons.mpr ⟨lw_p52, List.forall_mem_cons.mpr ⟨lw_p53, fun _ h => absurd h List.not_mem_nil⟩⟩⟩⟩⟩⟩
def lw_privs : List (MethodName × Nat) := lw_privs_1 ++ (lw_privs_2 ++ (lw_privs_3 ++ (lw_privs_4)))
def lw_tbl : List Cond := k2_sels lw_privs ++ tables_1
theorem lw_privs_ok : ∀ q ∈ lw_privs, lw_okq q := by
  show ∀ q ∈ lw_privs_1 ++ (lw_privs_2 ++ (lw_privs_3 ++ (lw_privs_4))), lw_okq q
  exact List.forall_mem_append.mpr ⟨lw_r1, List.forall_mem_append.mpr ⟨lw_r2, List.forall_mem_append.mpr ⟨lw_r3, lw_r4⟩⟩⟩
-- ===== end of PART A =====
/-- the words that may go to any method: those of the tables that hold later too -/
def TB : List Cond := lw_tbl.filter goodWord
theorem tb_at {w : Cond} (i : Nat) (h : lw_tbl[i]? = some w) (hg : goodWord w = true) : w ∈ TB := List.mem_filter.mpr ⟨List.mem_of_getElem? h, hg⟩
theorem tb_tbl : ∀ w ∈ TB, w ∈ lw_tbl := fun _ h => (List.mem_filter.mp h).1
theorem tb_good : GoodIn TB TB := fun w h => ⟨h, good_of_word (List.mem_filter.mp h).2⟩
end
section
theorem goodIn_r {big : List Cond} (ws : List Cond) (ps : List Nat) (hp : ws = ps.filterMap (fun i => big[i]?)) (h : ws.all goodWord = true) : GoodIn big ws := by
  intro w hw
  have h1 := List.all_eq_true.mp h w hw
  rw [hp] at hw
  obtain ⟨i, -, hi⟩ := List.mem_filterMap.mp hw
  have hm : w ∈ big := by first | exact List.mem_of_getElem? hi | exact List.getElem?_mem hi
  exact ⟨hm, good_of_word h1⟩
theorem goodIn_app {big a b : List Cond} (ha : GoodIn big a) (hb : GoodIn big b) : GoodIn big (a ++ b) := fun w h => (List.mem_append.mp h).elim (ha w) (hb w)
theorem goodIn_ca {big a b : List Cond} {c : Cond} (ha : GoodIn big (c :: a)) (hb : GoodIn big b) : GoodIn big (c :: (a ++ b)) := fun w h => (List.mem_cons.mp h).elim (fun e => ha w (List.mem_cons.mpr (Or.inl e))) (fun h => (List.mem_append.mp h).elim (fun h => ha w (List.mem_cons.mpr (Or.inr h))) (hb w))
theorem goodIn_sub {big ws : List Cond} (hm : ∀ w ∈ ws, w ∈ big) (h : ws.all goodWord = true) : GoodIn big ws := fun w hw => ⟨hm w hw, good_of_word (List.all_eq_true.mp h w hw)⟩
def RX0 : String := "AmberGrains$Reader"
def TX0 : u_T := fun k => match k with
  | 0 => ("AmberGrains$Reader", "text", "[B", true)
  | 1 => ("AmberGrains$Reader", "steps", "[I", true)
  | 2 => ("AmberGrains$Reader", "length", "I", false)
  | 3 => ("AmberGrains$Reader", "at", "I", false)
  | 4 => ("AmberGrains$Reader", "fits", "Z", false)
  | 5 => ("AmberGrains$Reader", "stepsRead", "I", false)
  | _ => ("AmberGrains$Reader", "room", "I", false)
def tyX0 : Nat → FieldType := fun k => match k with
  | 0 => .array .byte
  | 1 => .array .int
  | 2 => .int
  | 3 => .int
  | 4 => .boolean
  | 5 => .int
  | _ => .int
abbrev wsX00 : List Cond := u_ws RX0 TX0 7
theorem nmX0 : ∀ a, a < 7 → ∀ b, b < 7 → a ≠ b → (TX0 a).2.1 ≠ (TX0 b).2.1 := by decide +kernel
theorem tyX0_ok : ∀ k, k < 7 → parseFieldDescriptor (TX0 k).2.2.1 = some (tyX0 k) := by decide +kernel
abbrev cX0_init : ByteArray := prog_2_method_1_code
def yX0_init : MethodName := ⟨RX0, "<init>", "()V"⟩
abbrev cX0_takes : ByteArray := prog_2_method_2_code
def yX0_takes : MethodName := ⟨RX0, "takes", "(I)I"⟩
abbrev cX0_readsSea : ByteArray := prog_2_method_3_code
def yX0_readsSea : MethodName := ⟨RX0, "readsSea", "()LAmberGrains$Sea;"⟩
abbrev cX0_fault : ByteArray := prog_2_method_4_code
def yX0_fault : MethodName := ⟨RX0, "fault", "()I"⟩
abbrev cX0_clause : ByteArray := prog_2_method_5_code
def yX0_clause : MethodName := ⟨RX0, "clause", "()V"⟩
abbrev cX0_either : ByteArray := prog_2_method_6_code
def yX0_either : MethodName := ⟨RX0, "either", "(I)V"⟩
abbrev cX0_single : ByteArray := prog_2_method_7_code
def yX0_single : MethodName := ⟨RX0, "single", "(I)V"⟩
abbrev cX0_test : ByteArray := prog_2_method_8_code
def yX0_test : MethodName := ⟨RX0, "test", "()V"⟩
abbrev cX0_sign : ByteArray := prog_2_method_9_code
def yX0_sign : MethodName := ⟨RX0, "sign", "()I"⟩
abbrev cX0_letters : ByteArray := prog_2_method_10_code
def yX0_letters : MethodName := ⟨RX0, "letters", "(Ljava/lang/String;)V"⟩
abbrev cX0_number : ByteArray := prog_2_method_11_code
def yX0_number : MethodName := ⟨RX0, "number", "()I"⟩
abbrev cX0_step : ByteArray := prog_2_method_12_code
def yX0_step : MethodName := ⟨RX0, "step", "(III)V"⟩
def RX1 : String := "AmberGrains$Rows"
def TX1 : u_T := fun k => match k with
  | 0 => ("AmberGrains$Rows", "most", "I", true)
  | 1 => ("AmberGrains$Rows", "cells", "[I", true)
  | _ => ("AmberGrains$Rows", "size", "I", false)
def tyX1 : Nat → FieldType := fun k => match k with
  | 0 => .int
  | 1 => .array .int
  | _ => .int
abbrev wsX10 : List Cond := u_ws RX1 TX1 3
theorem nmX1 : ∀ a, a < 3 → ∀ b, b < 3 → a ≠ b → (TX1 a).2.1 ≠ (TX1 b).2.1 := by decide +kernel
theorem tyX1_ok : ∀ k, k < 3 → parseFieldDescriptor (TX1 k).2.2.1 = some (tyX1 k) := by decide +kernel
abbrev cX1_init : ByteArray := prog_3_method_1_code
def yX1_init : MethodName := ⟨RX1, "<init>", "(I)V"⟩
abbrev cX1_emptied : ByteArray := prog_3_method_2_code
def yX1_emptied : MethodName := ⟨RX1, "emptied", "()I"⟩
abbrev cX1_takes : ByteArray := prog_3_method_3_code
def yX1_takes : MethodName := ⟨RX1, "takes", "(III)I"⟩
abbrev cX1_cell : ByteArray := prog_3_method_4_code
def yX1_cell : MethodName := ⟨RX1, "cell", "(II)I"⟩
abbrev cX1_becomes : ByteArray := prog_3_method_5_code
def yX1_becomes : MethodName := ⟨RX1, "becomes", "(LAmberGrains$Rows;)V"⟩
def RX2 : String := "AmberGrains$Sea"
def TX2 : u_T := fun k => match k with
  | 0 => ("AmberGrains$Sea", "steps", "[I", true)
  | _ => ("AmberGrains$Sea", "room", "I", true)
def tyX2 : Nat → FieldType := fun k => match k with
  | 0 => .array .int
  | _ => .int
abbrev wsX20 : List Cond := u_ws RX2 TX2 2
theorem nmX2 : ∀ a, a < 2 → ∀ b, b < 2 → a ≠ b → (TX2 a).2.1 ≠ (TX2 b).2.1 := by decide +kernel
theorem tyX2_ok : ∀ k, k < 2 → parseFieldDescriptor (TX2 k).2.2.1 = some (tyX2 k) := by decide +kernel
abbrev cX2_init : ByteArray := prog_4_method_1_code
def yX2_init : MethodName := ⟨RX2, "<init>", "([II)V"⟩
abbrev cX2_step : ByteArray := prog_4_method_2_code
def yX2_step : MethodName := ⟨RX2, "step", "(III)I"⟩
abbrev cX2_adds : ByteArray := prog_4_method_3_code
def yX2_adds : MethodName := ⟨RX2, "adds", "([I)I"⟩
def RX3 : String := "AmberGrains$Tape"
def TX3 : u_T := fun k => match k with
  | 0 => ("AmberGrains$Tape", "items", "[J", true)
  | 1 => ("AmberGrains$Tape", "sort", "I", false)
  | _ => ("AmberGrains$Tape", "size", "I", false)
def tyX3 : Nat → FieldType := fun k => match k with
  | 0 => .array .long
  | 1 => .int
  | _ => .int
abbrev wsX30 : List Cond := u_ws RX3 TX3 3
theorem nmX3 : ∀ a, a < 3 → ∀ b, b < 3 → a ≠ b → (TX3 a).2.1 ≠ (TX3 b).2.1 := by decide +kernel
theorem tyX3_ok : ∀ k, k < 3 → parseFieldDescriptor (TX3 k).2.2.1 = some (tyX3 k) := by decide +kernel
abbrev cX3_init : ByteArray := prog_5_method_1_code
def yX3_init : MethodName := ⟨RX3, "<init>", "()V"⟩
abbrev cX3_becomesRow : ByteArray := prog_5_method_2_code
def yX3_becomesRow : MethodName := ⟨RX3, "becomesRow", "(II)V"⟩
abbrev cX3_fitted : ByteArray := prog_5_method_3_code
def yX3_fitted : MethodName := ⟨RX3, "fitted", "(J)J"⟩
def RX4 : String := "AmberGrains$Voice"
def TX4 : u_T := fun k => match k with
  | 0 => ("AmberGrains$Voice", "kept", "[I", true)
  | 1 => ("AmberGrains$Voice", "ran", "I", false)
  | 2 => ("AmberGrains$Voice", "i", "I", false)
  | 3 => ("AmberGrains$Voice", "kind", "I", false)
  | _ => ("AmberGrains$Voice", "v", "I", false)
def tyX4 : Nat → FieldType := fun k => match k with
  | 0 => .array .int
  | 1 => .int
  | 2 => .int
  | 3 => .int
  | _ => .int
abbrev wsX40 : List Cond := u_ws RX4 TX4 5
theorem nmX4 : ∀ a, a < 5 → ∀ b, b < 5 → a ≠ b → (TX4 a).2.1 ≠ (TX4 b).2.1 := by decide +kernel
theorem tyX4_ok : ∀ k, k < 5 → parseFieldDescriptor (TX4 k).2.2.1 = some (tyX4 k) := by decide +kernel
abbrev cX4_init : ByteArray := prog_6_method_1_code
def yX4_init : MethodName := ⟨RX4, "<init>", "()V"⟩
abbrev cX4_kindAbove : ByteArray := prog_6_method_2_code
def yX4_kindAbove : MethodName := ⟨RX4, "kindAbove", "(I)I"⟩
abbrev cX4_becomesThatOf : ByteArray := prog_6_method_3_code
def yX4_becomesThatOf : MethodName := ⟨RX4, "becomesThatOf", "(III)V"⟩
abbrev cX4_does : ByteArray := prog_6_method_4_code
def yX4_does : MethodName := ⟨RX4, "does", "(II)I"⟩
abbrev cX4_from : ByteArray := prog_6_method_5_code
def yX4_from : MethodName := ⟨RX4, "from", "(IIII)I"⟩
abbrev cX4_body : ByteArray := prog_6_method_6_code
def yX4_body : MethodName := ⟨RX4, "body", "(III)I"⟩
def RX5 : String := "AmberGrains$World"
def TX5 : u_T := fun k => match k with
  | 0 => ("AmberGrains$World", "oldest", "I", true)
  | 1 => ("AmberGrains$World", "kind", "[I", true)
  | 2 => ("AmberGrains$World", "v", "[I", true)
  | 3 => ("AmberGrains$World", "weight", "[I", true)
  | 4 => ("AmberGrains$World", "state", "[I", true)
  | 5 => ("AmberGrains$World", "age", "[I", true)
  | 6 => ("AmberGrains$World", "place", "[I", true)
  | 7 => ("AmberGrains$World", "row", "[I", true)
  | 8 => ("AmberGrains$World", "current", "[I", true)
  | 9 => ("AmberGrains$World", "letters", "[I", true)
  | 10 => ("AmberGrains$World", "tellers", "I", false)
  | 11 => ("AmberGrains$World", "shore", "I", false)
  | 12 => ("AmberGrains$World", "finder", "I", false)
  | 13 => ("AmberGrains$World", "day", "I", false)
  | _ => ("AmberGrains$World", "sea", "LAmberGrains$Sea;", false)
def tyX5 : Nat → FieldType := fun k => match k with
  | 0 => .int
  | 1 => .array .int
  | 2 => .array .int
  | 3 => .array .int
  | 4 => .array .int
  | 5 => .array .int
  | 6 => .array .int
  | 7 => .array .int
  | 8 => .array .int
  | 9 => .array .int
  | 10 => .int
  | 11 => .int
  | 12 => .int
  | 13 => .int
  | _ => .object "AmberGrains$Sea"
abbrev wsX50 : List Cond := u_ws RX5 TX5 15
theorem nmX5 : ∀ a, a < 15 → ∀ b, b < 15 → a ≠ b → (TX5 a).2.1 ≠ (TX5 b).2.1 := by decide +kernel
theorem tyX5_ok : ∀ k, k < 15 → parseFieldDescriptor (TX5 k).2.2.1 = some (tyX5 k) := by decide +kernel
abbrev cX5_init : ByteArray := prog_7_method_1_code
def yX5_init : MethodName := ⟨RX5, "<init>", "(I)V"⟩
abbrev cX5_becomes : ByteArray := prog_7_method_2_code
def yX5_becomes : MethodName := ⟨RX5, "becomes", "(LAmberGrains$World;)V"⟩
abbrev cX5_has : ByteArray := prog_7_method_3_code
def yX5_has : MethodName := ⟨RX5, "has", "(I)Z"⟩
abbrev cX5_comesNew : ByteArray := prog_7_method_4_code
def yX5_comesNew : MethodName := ⟨RX5, "comesNew", "(III)I"⟩
abbrev cX5_isTold : ByteArray := prog_7_method_5_code
def yX5_isTold : MethodName := ⟨RX5, "isTold", "(I)V"⟩
abbrev cX5_isSilent : ByteArray := prog_7_method_6_code
def yX5_isSilent : MethodName := ⟨RX5, "isSilent", "(I)V"⟩
abbrev cX5_room : ByteArray := prog_7_method_7_code
def yX5_room : MethodName := ⟨RX5, "room", "()I"⟩
abbrev cX5_howManyFound : ByteArray := prog_7_method_8_code
def yX5_howManyFound : MethodName := ⟨RX5, "howManyFound", "()I"⟩
abbrev cX5_withinBits : ByteArray := prog_7_method_9_code
def yX5_withinBits : MethodName := ⟨RX5, "withinBits", "()I"⟩
abbrev cX5_withinLoads : ByteArray := prog_7_method_10_code
def yX5_withinLoads : MethodName := ⟨RX5, "withinLoads", "()I"⟩
abbrev cX5_load : ByteArray := prog_7_method_11_code
def yX5_load : MethodName := ⟨RX5, "load", "(I)I"⟩
abbrev cX5_fillLetters : ByteArray := prog_7_method_12_code
def yX5_fillLetters : MethodName := ⟨RX5, "fillLetters", "(I)V"⟩
abbrev cX5_twinsShare : ByteArray := prog_7_method_13_code
def yX5_twinsShare : MethodName := ⟨RX5, "twinsShare", "(I)I"⟩
abbrev cX5_daysGo : ByteArray := prog_7_method_14_code
def yX5_daysGo : MethodName := ⟨RX5, "daysGo", "(I)V"⟩
abbrev cX5_dayGoes : ByteArray := prog_7_method_15_code
def yX5_dayGoes : MethodName := ⟨RX5, "dayGoes", "()V"⟩
abbrev cX5_bringUp : ByteArray := prog_7_method_16_code
def yX5_bringUp : MethodName := ⟨RX5, "bringUp", "()V"⟩
abbrev cX5_drift : ByteArray := prog_7_method_17_code
def yX5_drift : MethodName := ⟨RX5, "drift", "()V"⟩
def RX6 : String := "AmberGrains"
def TX6 : u_T := fun k => match k with
  | 0 => ("AmberGrains", "now", "LAmberGrains$World;", true)
  | 1 => ("AmberGrains", "trial", "LAmberGrains$World;", true)
  | 2 => ("AmberGrains", "imaged", "LAmberGrains$World;", true)
  | 3 => ("AmberGrains", "hasImage", "Z", false)
  | 4 => ("AmberGrains", "seen", "LAmberGrains$Rows;", true)
  | 5 => ("AmberGrains", "plans", "LAmberGrains$Rows;", true)
  | 6 => ("AmberGrains", "books", "LAmberGrains$Rows;", true)
  | 7 => ("AmberGrains", "imagedSeen", "LAmberGrains$Rows;", true)
  | 8 => ("AmberGrains", "imagedPlans", "LAmberGrains$Rows;", true)
  | 9 => ("AmberGrains", "imagedBooks", "LAmberGrains$Rows;", true)
  | 10 => ("AmberGrains", "reader", "LAmberGrains$Reader;", true)
  | 11 => ("AmberGrains", "seas", "I", false)
  | 12 => ("AmberGrains", "tapes", "[LAmberGrains$Tape;", true)
  | _ => ("AmberGrains", "voice", "LAmberGrains$Voice;", true)
def tyX6 : Nat → FieldType := fun k => match k with
  | 0 => .object "AmberGrains$World"
  | 1 => .object "AmberGrains$World"
  | 2 => .object "AmberGrains$World"
  | 3 => .boolean
  | 4 => .object "AmberGrains$Rows"
  | 5 => .object "AmberGrains$Rows"
  | 6 => .object "AmberGrains$Rows"
  | 7 => .object "AmberGrains$Rows"
  | 8 => .object "AmberGrains$Rows"
  | 9 => .object "AmberGrains$Rows"
  | 10 => .object "AmberGrains$Reader"
  | 11 => .int
  | 12 => .array (.object "AmberGrains$Tape")
  | _ => .object "AmberGrains$Voice"
abbrev wsX60 : List Cond := u_ws RX6 TX6 14
theorem nmX6 : ∀ a, a < 14 → ∀ b, b < 14 → a ≠ b → (TX6 a).2.1 ≠ (TX6 b).2.1 := by decide +kernel
theorem tyX6_ok : ∀ k, k < 14 → parseFieldDescriptor (TX6 k).2.2.1 = some (tyX6 k) := by decide +kernel
abbrev cX6_init : ByteArray := prog_1_method_1_code
def yX6_init : MethodName := ⟨RX6, "<init>", "()V"⟩
abbrev cX6_teller : ByteArray := prog_1_method_2_code
def yX6_teller : MethodName := ⟨RX6, "teller", "(III)I"⟩
abbrev cX6_of : ByteArray := prog_1_method_3_code
def yX6_of : MethodName := ⟨RX6, "of", "(II)I"⟩
abbrev cX6_tell : ByteArray := prog_1_method_4_code
def yX6_tell : MethodName := ⟨RX6, "tell", "(I)I"⟩
abbrev cX6_weigh : ByteArray := prog_1_method_5_code
def yX6_weigh : MethodName := ⟨RX6, "weigh", "(II)I"⟩
abbrev cX6_put : ByteArray := prog_1_method_6_code
def yX6_put : MethodName := ⟨RX6, "put", "(III)I"⟩
abbrev cX6_sea : ByteArray := prog_1_method_7_code
def yX6_sea : MethodName := ⟨RX6, "sea", "(II)I"⟩
abbrev cX6_row : ByteArray := prog_1_method_8_code
def yX6_row : MethodName := ⟨RX6, "row", "(III)I"⟩
abbrev cX6_feed : ByteArray := prog_1_method_9_code
def yX6_feed : MethodName := ⟨RX6, "feed", "(I)I"⟩
abbrev cX6_chart : ByteArray := prog_1_method_10_code
def yX6_chart : MethodName := ⟨RX6, "chart", "()I"⟩
abbrev cX6_told : ByteArray := prog_1_method_11_code
def yX6_told : MethodName := ⟨RX6, "told", "(I)I"⟩
abbrev cX6_pass : ByteArray := prog_1_method_12_code
def yX6_pass : MethodName := ⟨RX6, "pass", "(I)I"⟩
abbrev cX6_on : ByteArray := prog_1_method_13_code
def yX6_on : MethodName := ⟨RX6, "on", "(II)I"⟩
abbrev cX6_begin : ByteArray := prog_1_method_14_code
def yX6_begin : MethodName := ⟨RX6, "begin", "(II)I"⟩
abbrev cX6_see : ByteArray := prog_1_method_15_code
def yX6_see : MethodName := ⟨RX6, "see", "(III)I"⟩
abbrev cX6_weights : ByteArray := prog_1_method_16_code
def yX6_weights : MethodName := ⟨RX6, "weights", "(I)I"⟩
abbrev cX6_can : ByteArray := prog_1_method_17_code
def yX6_can : MethodName := ⟨RX6, "can", "(II)I"⟩
abbrev cX6_odds : ByteArray := prog_1_method_18_code
def yX6_odds : MethodName := ⟨RX6, "odds", "(III)J"⟩
abbrev cX6_mean : ByteArray := prog_1_method_19_code
def yX6_mean : MethodName := ⟨RX6, "mean", "(I)J"⟩
abbrev cX6_plan : ByteArray := prog_1_method_20_code
def yX6_plan : MethodName := ⟨RX6, "plan", "(II)I"⟩
abbrev cX6_ends : ByteArray := prog_1_method_21_code
def yX6_ends : MethodName := ⟨RX6, "ends", "(I)I"⟩
abbrev cX6_book : ByteArray := prog_1_method_22_code
def yX6_book : MethodName := ⟨RX6, "book", "(II)I"⟩
abbrev cX6_looked : ByteArray := prog_1_method_23_code
def yX6_looked : MethodName := ⟨RX6, "looked", "()I"⟩
abbrev cX6_judge : ByteArray := prog_1_method_24_code
def yX6_judge : MethodName := ⟨RX6, "judge", "(II)I"⟩
abbrev cX6_image : ByteArray := prog_1_method_25_code
def yX6_image : MethodName := ⟨RX6, "image", "()I"⟩
abbrev cX6_undo : ByteArray := prog_1_method_26_code
def yX6_undo : MethodName := ⟨RX6, "undo", "()I"⟩
abbrev cX6_act : ByteArray := prog_1_method_27_code
def yX6_act : MethodName := ⟨RX6, "act", "(III)I"⟩
abbrev cX6_trace : ByteArray := prog_1_method_28_code
def yX6_trace : MethodName := ⟨RX6, "trace", "(I)I"⟩
abbrev cX6_taken : ByteArray := prog_1_method_29_code
def yX6_taken : MethodName := ⟨RX6, "taken", "(II)I"⟩
abbrev cX6_count : ByteArray := prog_1_method_30_code
def yX6_count : MethodName := ⟨RX6, "count", "(I)I"⟩
abbrev cX6_tape : ByteArray := prog_1_method_31_code
def yX6_tape : MethodName := ⟨RX6, "tape", "(III)I"⟩
abbrev cX6_item : ByteArray := prog_1_method_32_code
def yX6_item : MethodName := ⟨RX6, "item", "(IIJ)I"⟩
abbrev cX6_read : ByteArray := prog_1_method_33_code
def yX6_read : MethodName := ⟨RX6, "read", "(II)J"⟩
abbrev cX6_shift : ByteArray := prog_1_method_34_code
def yX6_shift : MethodName := ⟨RX6, "shift", "(IIIII)I"⟩
abbrev cX6_isPlace : ByteArray := prog_1_method_35_code
def yX6_isPlace : MethodName := ⟨RX6, "isPlace", "(I)Z"⟩
abbrev cX6_isTape : ByteArray := prog_1_method_36_code
def yX6_isTape : MethodName := ⟨RX6, "isTape", "(I)Z"⟩
abbrev cX6_inLowestTerms : ByteArray := prog_1_method_37_code
def yX6_inLowestTerms : MethodName := ⟨RX6, "inLowestTerms", "(III)J"⟩
abbrev cX6_blowOf : ByteArray := prog_1_method_38_code
def yX6_blowOf : MethodName := ⟨RX6, "blowOf", "(I)I"⟩
abbrev cX6_newsOf : ByteArray := prog_1_method_39_code
def yX6_newsOf : MethodName := ⟨RX6, "newsOf", "(I)I"⟩
abbrev cX6_trialComes : ByteArray := prog_1_method_40_code
def yX6_trialComes : MethodName := ⟨RX6, "trialComes", "(II)I"⟩
abbrev cX6_trialFromFinderAt : ByteArray := prog_1_method_41_code
def yX6_trialFromFinderAt : MethodName := ⟨RX6, "trialFromFinderAt", "(II)V"⟩
abbrev cX6_trialIsAsSeen : ByteArray := prog_1_method_42_code
def yX6_trialIsAsSeen : MethodName := ⟨RX6, "trialIsAsSeen", "()Z"⟩
abbrev cX6_trialIsAsSeenOn : ByteArray := prog_1_method_43_code
def yX6_trialIsAsSeenOn : MethodName := ⟨RX6, "trialIsAsSeenOn", "(I)Z"⟩
abbrev cX6_trialDoes : ByteArray := prog_1_method_44_code
def yX6_trialDoes : MethodName := ⟨RX6, "trialDoes", "(II)V"⟩
def RX7 : String := "AmberGrainsModel"
def TX7 : u_T := fun k => match k with
  | 0 => ("AmberGrainsModel", "now", "[I", true)
  | 1 => ("AmberGrainsModel", "mind", "[I", true)
  | 2 => ("AmberGrainsModel", "then", "[I", true)
  | 3 => ("AmberGrainsModel", "kept", "Z", false)
  | 4 => ("AmberGrainsModel", "text", "[I", true)
  | 5 => ("AmberGrainsModel", "texted", "I", false)
  | 6 => ("AmberGrainsModel", "rules", "[I", true)
  | 7 => ("AmberGrainsModel", "sizes", "[I", true)
  | 8 => ("AmberGrainsModel", "ruled", "I", false)
  | 9 => ("AmberGrainsModel", "read", "[I", true)
  | 10 => ("AmberGrainsModel", "size", "I", false)
  | 11 => ("AmberGrainsModel", "at", "I", false)
  | 12 => ("AmberGrainsModel", "well", "Z", false)
  | 13 => ("AmberGrainsModel", "within", "I", false)
  | 14 => ("AmberGrainsModel", "sum", "I", false)
  | 15 => ("AmberGrainsModel", "room", "I", false)
  | 16 => ("AmberGrainsModel", "names", "[I", true)
  | 17 => ("AmberGrainsModel", "letters", "[C", true)
  | 18 => ("AmberGrainsModel", "words", "[C", true)
  | 19 => ("AmberGrainsModel", "had", "[I", true)
  | 20 => ("AmberGrainsModel", "above", "[I", true)
  | 21 => ("AmberGrainsModel", "bodies", "[I", true)
  | 22 => ("AmberGrainsModel", "trace", "[I", true)
  | 23 => ("AmberGrainsModel", "ran", "I", false)
  | 24 => ("AmberGrainsModel", "sorts", "[I", true)
  | 25 => ("AmberGrainsModel", "lengths", "[I", true)
  | 26 => ("AmberGrainsModel", "items", "[J", true)
  | _ => ("AmberGrainsModel", "moved", "[J", true)
def tyX7 : Nat → FieldType := fun k => match k with
  | 0 => .array .int
  | 1 => .array .int
  | 2 => .array .int
  | 3 => .boolean
  | 4 => .array .int
  | 5 => .int
  | 6 => .array .int
  | 7 => .array .int
  | 8 => .int
  | 9 => .array .int
  | 10 => .int
  | 11 => .int
  | 12 => .boolean
  | 13 => .int
  | 14 => .int
  | 15 => .int
  | 16 => .array .int
  | 17 => .array .char
  | 18 => .array .char
  | 19 => .array .int
  | 20 => .array .int
  | 21 => .array .int
  | 22 => .array .int
  | 23 => .int
  | 24 => .array .int
  | 25 => .array .int
  | 26 => .array .long
  | _ => .array .long
abbrev wsX70 : List Cond := u_ws RX7 TX7 28
theorem nmX7 : ∀ a, a < 28 → ∀ b, b < 28 → a ≠ b → (TX7 a).2.1 ≠ (TX7 b).2.1 := by decide +kernel
theorem tyX7_ok : ∀ k, k < 28 → parseFieldDescriptor (TX7 k).2.2.1 = some (tyX7 k) := by decide +kernel
abbrev cX7_init : ByteArray := prog_9_method_1_code
def yX7_init : MethodName := ⟨RX7, "<init>", "()V"⟩
abbrev cX7_isIn : ByteArray := prog_9_method_2_code
def yX7_isIn : MethodName := ⟨RX7, "isIn", "(III)Z"⟩
abbrev cX7_fresh : ByteArray := prog_9_method_3_code
def yX7_fresh : MethodName := ⟨RX7, "fresh", "()[I"⟩
abbrev cX7_move : ByteArray := prog_9_method_4_code
def yX7_move : MethodName := ⟨RX7, "move", "([I[I)V"⟩
abbrev cX7_image : ByteArray := prog_9_method_5_code
def yX7_image : MethodName := ⟨RX7, "image", "()I"⟩
abbrev cX7_undo : ByteArray := prog_9_method_6_code
def yX7_undo : MethodName := ⟨RX7, "undo", "()I"⟩
abbrev cX7_isOne : ByteArray := prog_9_method_7_code
def yX7_isOne : MethodName := ⟨RX7, "isOne", "(I)Z"⟩
abbrev cX7_isPlace : ByteArray := prog_9_method_8_code
def yX7_isPlace : MethodName := ⟨RX7, "isPlace", "(I)Z"⟩
abbrev cX7_one : ByteArray := prog_9_method_9_code
def yX7_one : MethodName := ⟨RX7, "one", "(II)I"⟩
abbrev cX7_change : ByteArray := prog_9_method_10_code
def yX7_change : MethodName := ⟨RX7, "change", "(III)I"⟩
abbrev cX7_isAs : ByteArray := prog_9_method_11_code
def yX7_isAs : MethodName := ⟨RX7, "isAs", "(II)Z"⟩
abbrev cX7_teller : ByteArray := prog_9_method_12_code
def yX7_teller : MethodName := ⟨RX7, "teller", "(III)I"⟩
abbrev cX7_of : ByteArray := prog_9_method_13_code
def yX7_of : MethodName := ⟨RX7, "of", "(II)I"⟩
abbrev cX7_says : ByteArray := prog_9_method_14_code
def yX7_says : MethodName := ⟨RX7, "says", "(I)V"⟩
abbrev cX7_tell : ByteArray := prog_9_method_15_code
def yX7_tell : MethodName := ⟨RX7, "tell", "(I)I"⟩
abbrev cX7_weigh : ByteArray := prog_9_method_16_code
def yX7_weigh : MethodName := ⟨RX7, "weigh", "(II)I"⟩
abbrev cX7_put : ByteArray := prog_9_method_17_code
def yX7_put : MethodName := ⟨RX7, "put", "(III)I"⟩
abbrev cX7_sea : ByteArray := prog_9_method_18_code
def yX7_sea : MethodName := ⟨RX7, "sea", "(II)I"⟩
abbrev cX7_row : ByteArray := prog_9_method_19_code
def yX7_row : MethodName := ⟨RX7, "row", "(III)I"⟩
abbrev cX7_feed : ByteArray := prog_9_method_20_code
def yX7_feed : MethodName := ⟨RX7, "feed", "(I)I"⟩
abbrev cX7_isAt : ByteArray := prog_9_method_21_code
def yX7_isAt : MethodName := ⟨RX7, "isAt", "(I)Z"⟩
abbrev cX7_takes : ByteArray := prog_9_method_22_code
def yX7_takes : MethodName := ⟨RX7, "takes", "(I)V"⟩
abbrev cX7_isDigit : ByteArray := prog_9_method_23_code
def yX7_isDigit : MethodName := ⟨RX7, "isDigit", "()Z"⟩
abbrev cX7_number : ByteArray := prog_9_method_24_code
def yX7_number : MethodName := ⟨RX7, "number", "()I"⟩
abbrev cX7_test : ByteArray := prog_9_method_25_code
def yX7_test : MethodName := ⟨RX7, "test", "()Z"⟩
abbrev cX7_factor : ByteArray := prog_9_method_26_code
def yX7_factor : MethodName := ⟨RX7, "factor", "()Z"⟩
abbrev cX7_both : ByteArray := prog_9_method_27_code
def yX7_both : MethodName := ⟨RX7, "both", "()Z"⟩
abbrev cX7_any : ByteArray := prog_9_method_28_code
def yX7_any : MethodName := ⟨RX7, "any", "()Z"⟩
abbrev cX7_clause : ByteArray := prog_9_method_29_code
def yX7_clause : MethodName := ⟨RX7, "clause", "()V"⟩
abbrev cX7_readAll : ByteArray := prog_9_method_30_code
def yX7_readAll : MethodName := ⟨RX7, "readAll", "()Z"⟩
abbrev cX7_readFor : ByteArray := prog_9_method_31_code
def yX7_readFor : MethodName := ⟨RX7, "readFor", "(I)V"⟩
abbrev cX7_chart : ByteArray := prog_9_method_32_code
def yX7_chart : MethodName := ⟨RX7, "chart", "()I"⟩
abbrev cX7_isAnotherTwin : ByteArray := prog_9_method_33_code
def yX7_isAnotherTwin : MethodName := ⟨RX7, "isAnotherTwin", "(I)Z"⟩
abbrev cX7_load : ByteArray := prog_9_method_34_code
def yX7_load : MethodName := ⟨RX7, "load", "(I)I"⟩
abbrev cX7_loads : ByteArray := prog_9_method_35_code
def yX7_loads : MethodName := ⟨RX7, "loads", "()I"⟩
abbrev cX7_roomNow : ByteArray := prog_9_method_36_code
def yX7_roomNow : MethodName := ⟨RX7, "roomNow", "()I"⟩
abbrev cX7_howMany : ByteArray := prog_9_method_37_code
def yX7_howMany : MethodName := ⟨RX7, "howMany", "(I)I"⟩
abbrev cX7_which : ByteArray := prog_9_method_38_code
def yX7_which : MethodName := ⟨RX7, "which", "(I)I"⟩
abbrev cX7_bringUp : ByteArray := prog_9_method_39_code
def yX7_bringUp : MethodName := ⟨RX7, "bringUp", "()V"⟩
abbrev cX7_day : ByteArray := prog_9_method_40_code
def yX7_day : MethodName := ⟨RX7, "day", "()V"⟩
abbrev cX7_days : ByteArray := prog_9_method_41_code
def yX7_days : MethodName := ⟨RX7, "days", "(I)V"⟩
abbrev cX7_comes : ByteArray := prog_9_method_42_code
def yX7_comes : MethodName := ⟨RX7, "comes", "(II)I"⟩
abbrev cX7_late : ByteArray := prog_9_method_43_code
def yX7_late : MethodName := ⟨RX7, "late", "(I)I"⟩
abbrev cX7_blow : ByteArray := prog_9_method_44_code
def yX7_blow : MethodName := ⟨RX7, "blow", "(I)I"⟩
abbrev cX7_news : ByteArray := prog_9_method_45_code
def yX7_news : MethodName := ⟨RX7, "news", "(I)I"⟩
abbrev cX7_told : ByteArray := prog_9_method_46_code
def yX7_told : MethodName := ⟨RX7, "told", "(I)I"⟩
abbrev cX7_pass : ByteArray := prog_9_method_47_code
def yX7_pass : MethodName := ⟨RX7, "pass", "(I)I"⟩
abbrev cX7_on : ByteArray := prog_9_method_48_code
def yX7_on : MethodName := ⟨RX7, "on", "(II)I"⟩
abbrev cX7_begin : ByteArray := prog_9_method_49_code
def yX7_begin : MethodName := ⟨RX7, "begin", "(II)I"⟩
abbrev cX7_see : ByteArray := prog_9_method_50_code
def yX7_see : MethodName := ⟨RX7, "see", "(III)I"⟩
abbrev cX7_isAllSeen : ByteArray := prog_9_method_51_code
def yX7_isAllSeen : MethodName := ⟨RX7, "isAllSeen", "()Z"⟩
abbrev cX7_fits : ByteArray := prog_9_method_52_code
def yX7_fits : MethodName := ⟨RX7, "fits", "(III)I"⟩
abbrev cX7_weights : ByteArray := prog_9_method_53_code
def yX7_weights : MethodName := ⟨RX7, "weights", "(I)I"⟩
abbrev cX7_can : ByteArray := prog_9_method_54_code
def yX7_can : MethodName := ⟨RX7, "can", "(II)I"⟩
abbrev cX7_fraction : ByteArray := prog_9_method_55_code
def yX7_fraction : MethodName := ⟨RX7, "fraction", "(JJI)J"⟩
abbrev cX7_odds : ByteArray := prog_9_method_56_code
def yX7_odds : MethodName := ⟨RX7, "odds", "(III)J"⟩
abbrev cX7_mean : ByteArray := prog_9_method_57_code
def yX7_mean : MethodName := ⟨RX7, "mean", "(I)J"⟩
abbrev cX7_plan : ByteArray := prog_9_method_58_code
def yX7_plan : MethodName := ⟨RX7, "plan", "(II)I"⟩
abbrev cX7_ends : ByteArray := prog_9_method_59_code
def yX7_ends : MethodName := ⟨RX7, "ends", "(I)I"⟩
abbrev cX7_book : ByteArray := prog_9_method_60_code
def yX7_book : MethodName := ⟨RX7, "book", "(II)I"⟩
abbrev cX7_looked : ByteArray := prog_9_method_61_code
def yX7_looked : MethodName := ⟨RX7, "looked", "()I"⟩
abbrev cX7_body : ByteArray := prog_9_method_62_code
def yX7_body : MethodName := ⟨RX7, "body", "(I)I"⟩
abbrev cX7_all : ByteArray := prog_9_method_63_code
def yX7_all : MethodName := ⟨RX7, "all", "(III)I"⟩
abbrev cX7_byKind : ByteArray := prog_9_method_64_code
def yX7_byKind : MethodName := ⟨RX7, "byKind", "(IIII)I"⟩
abbrev cX7_act : ByteArray := prog_9_method_65_code
def yX7_act : MethodName := ⟨RX7, "act", "(III)I"⟩
abbrev cX7_trace : ByteArray := prog_9_method_66_code
def yX7_trace : MethodName := ⟨RX7, "trace", "(I)I"⟩
abbrev cX7_taken : ByteArray := prog_9_method_67_code
def yX7_taken : MethodName := ⟨RX7, "taken", "(II)I"⟩
abbrev cX7_count : ByteArray := prog_9_method_68_code
def yX7_count : MethodName := ⟨RX7, "count", "(I)I"⟩
abbrev cX7_isTape : ByteArray := prog_9_method_69_code
def yX7_isTape : MethodName := ⟨RX7, "isTape", "(I)Z"⟩
abbrev cX7_tape : ByteArray := prog_9_method_70_code
def yX7_tape : MethodName := ⟨RX7, "tape", "(III)I"⟩
abbrev cX7_item : ByteArray := prog_9_method_71_code
def yX7_item : MethodName := ⟨RX7, "item", "(IIJ)I"⟩
abbrev cX7_read : ByteArray := prog_9_method_72_code
def yX7_read : MethodName := ⟨RX7, "read", "(II)J"⟩
abbrev cX7_shift : ByteArray := prog_9_method_73_code
def yX7_shift : MethodName := ⟨RX7, "shift", "(IIIII)I"⟩
abbrev cX7_judge : ByteArray := prog_9_method_74_code
def yX7_judge : MethodName := ⟨RX7, "judge", "(II)I"⟩
def RJx145de : String := "java/io/Serializable"
def TJx145de : u_T := fun k => match k with
  | _ => ("", "", "", false)
def tyJx145de : Nat → FieldType := fun k => match k with
  | _ => .int
def RJx9f9b0 : String := "java/lang/CharSequence"
def TJx9f9b0 : u_T := fun k => match k with
  | _ => ("", "", "", false)
def tyJx9f9b0 : Nat → FieldType := fun k => match k with
  | _ => .int
def RJ11 : String := "java/lang/Character"
def TJ11 : u_T := fun k => match k with
  | _ => ("", "", "", false)
def tyJ11 : Nat → FieldType := fun k => match k with
  | _ => .int
abbrev wsJ110 : List Cond := u_ws RJ11 TJ11 0
abbrev cJ11_isValidCodePoint_9a6ad : ByteArray := prog_10_method_11_code
def yJ11_isValidCodePoint_9a6ad : MethodName := ⟨RJ11, "isValidCodePoint", "(I)Z"⟩
abbrev cJ11_highSurrogate_5068e : ByteArray := prog_10_method_28_code
def yJ11_highSurrogate_5068e : MethodName := ⟨RJ11, "highSurrogate", "(I)C"⟩
abbrev cJ11_lowSurrogate_5068e : ByteArray := prog_10_method_29_code
def yJ11_lowSurrogate_5068e : MethodName := ⟨RJ11, "lowSurrogate", "(I)C"⟩
def RJx8e188 : String := "java/lang/Cloneable"
def TJx8e188 : u_T := fun k => match k with
  | _ => ("", "", "", false)
def tyJx8e188 : Nat → FieldType := fun k => match k with
  | _ => .int
def RJxb160c : String := "java/lang/Comparable"
def TJxb160c : u_T := fun k => match k with
  | _ => ("", "", "", false)
def tyJxb160c : Nat → FieldType := fun k => match k with
  | _ => .int
def RJ6 : String := "java/lang/Integer"
def TJ6 : u_T := fun k => match k with
  | _ => ("", "", "", false)
def tyJ6 : Nat → FieldType := fun k => match k with
  | _ => .int
abbrev wsJ60 : List Cond := u_ws RJ6 TJ6 0
abbrev cJ6_bitCount_0f7a4 : ByteArray := prog_12_method_49_code
def yJ6_bitCount_0f7a4 : MethodName := ⟨RJ6, "bitCount", "(I)I"⟩
def RJ9 : String := "java/lang/Math"
def TJ9 : u_T := fun k => match k with
  | _ => ("", "", "", false)
def tyJ9 : Nat → FieldType := fun k => match k with
  | _ => .int
abbrev wsJ90 : List Cond := u_ws RJ9 TJ9 0
abbrev cJ9_abs_067f4 : ByteArray := prog_13_method_61_code
def yJ9_abs_067f4 : MethodName := ⟨RJ9, "abs", "(J)J"⟩
abbrev cJ9_max_7cf53 : ByteArray := prog_13_method_65_code
def yJ9_max_7cf53 : MethodName := ⟨RJ9, "max", "(II)I"⟩
abbrev cJ9_min_7cf53 : ByteArray := prog_13_method_69_code
def yJ9_min_7cf53 : MethodName := ⟨RJ9, "min", "(II)I"⟩
def RJ0 : String := "java/lang/String"
def TJ0 : u_T := fun k => match k with
  | _ => ("", "", "", false)
def tyJ0 : Nat → FieldType := fun k => match k with
  | _ => .int
abbrev wsJ00 : List Cond := u_ws RJ0 TJ0 0
abbrev cJ0_length_8abf5 : ByteArray := prog_14_method_54_code
def yJ0_length_8abf5 : MethodName := ⟨RJ0, "length", "()I"⟩
abbrev cJ0_charAt_5068e : ByteArray := prog_14_method_56_code
def yJ0_charAt_5068e : MethodName := ⟨RJ0, "charAt", "(I)C"⟩
abbrev cJ0_indexOf_0f7a4 : ByteArray := prog_14_method_79_code
def yJ0_indexOf_0f7a4 : MethodName := ⟨RJ0, "indexOf", "(I)I"⟩
abbrev cJ0_indexOf_7cf53 : ByteArray := prog_14_method_80_code
def yJ0_indexOf_7cf53 : MethodName := ⟨RJ0, "indexOf", "(II)I"⟩
abbrev cJ0_coder_7d493 : ByteArray := prog_14_method_152_code
def yJ0_coder_7d493 : MethodName := ⟨RJ0, "coder", "()B"⟩
abbrev cJ0_isLatin1_aae02 : ByteArray := prog_14_method_154_code
def yJ0_isLatin1_aae02 : MethodName := ⟨RJ0, "isLatin1", "()Z"⟩
abbrev cJ0_checkIndex_df160 : ByteArray := prog_14_method_155_code
def yJ0_checkIndex_df160 : MethodName := ⟨RJ0, "checkIndex", "(II)V"⟩
abbrev cJ0_checkBoundsBeginEnd_23922 : ByteArray := prog_14_method_158_code
def yJ0_checkBoundsBeginEnd_23922 : MethodName := ⟨RJ0, "checkBoundsBeginEnd", "(III)V"⟩
def RJ1 : String := "java/lang/StringLatin1"
def TJ1 : u_T := fun k => match k with
  | _ => ("", "", "", false)
def tyJ1 : Nat → FieldType := fun k => match k with
  | _ => .int
abbrev wsJ10 : List Cond := u_ws RJ1 TJ1 0
abbrev cJ1_charAt_3b067 : ByteArray := prog_15_method_2_code
def yJ1_charAt_3b067 : MethodName := ⟨RJ1, "charAt", "([BI)C"⟩
abbrev cJ1_canEncode_9a6ad : ByteArray := prog_15_method_4_code
def yJ1_canEncode_9a6ad : MethodName := ⟨RJ1, "canEncode", "(I)Z"⟩
abbrev cJ1_indexOf_4cfef : ByteArray := prog_15_method_22_code
def yJ1_indexOf_4cfef : MethodName := ⟨RJ1, "indexOf", "([BIII)I"⟩
abbrev cJ1_indexOfChar_4cfef : ByteArray := prog_15_method_23_code
def yJ1_indexOfChar_4cfef : MethodName := ⟨RJ1, "indexOfChar", "([BIII)I"⟩
def RJ2 : String := "java/lang/StringUTF16"
def TJ2 : u_T := fun k => match k with
  | _ => ("", "", "", false)
def tyJ2 : Nat → FieldType := fun k => match k with
  | _ => .int
abbrev wsJ20 : List Cond := u_ws RJ2 TJ2 0
abbrev cJ2_getChar_3b067 : ByteArray := prog_16_method_5_code
def yJ2_getChar_3b067 : MethodName := ⟨RJ2, "getChar", "([BI)C"⟩
abbrev cJ2_length_9d52b : ByteArray := prog_16_method_6_code
def yJ2_length_9d52b : MethodName := ⟨RJ2, "length", "([B)I"⟩
abbrev cJ2_indexOf_4cfef : ByteArray := prog_16_method_40_code
def yJ2_indexOf_4cfef : MethodName := ⟨RJ2, "indexOf", "([BIII)I"⟩
abbrev cJ2_indexOfChar_4cfef : ByteArray := prog_16_method_47_code
def yJ2_indexOfChar_4cfef : MethodName := ⟨RJ2, "indexOfChar", "([BIII)I"⟩
abbrev cJ2_indexOfCharUnsafe_4cfef : ByteArray := prog_16_method_48_code
def yJ2_indexOfCharUnsafe_4cfef : MethodName := ⟨RJ2, "indexOfCharUnsafe", "([BIII)I"⟩
abbrev cJ2_indexOfSupplementary_4cfef : ByteArray := prog_16_method_49_code
def yJ2_indexOfSupplementary_4cfef : MethodName := ⟨RJ2, "indexOfSupplementary", "([BIII)I"⟩
abbrev cJ2_charAt_3b067 : ByteArray := prog_16_method_83_code
def yJ2_charAt_3b067 : MethodName := ⟨RJ2, "charAt", "([BI)C"⟩
abbrev cJ2_checkIndex_2214a : ByteArray := prog_16_method_91_code
def yJ2_checkIndex_2214a : MethodName := ⟨RJ2, "checkIndex", "(I[B)V"⟩
abbrev cJ2_checkBoundsBeginEnd_d044e : ByteArray := prog_16_method_93_code
def yJ2_checkBoundsBeginEnd_d044e : MethodName := ⟨RJ2, "checkBoundsBeginEnd", "(II[B)V"⟩
def RJ10 : String := "java/lang/System"
def TJ10 : u_T := fun k => match k with
  | _ => ("", "", "", false)
def tyJ10 : Nat → FieldType := fun k => match k with
  | _ => .int
abbrev wsJ100 : List Cond := u_ws RJ10 TJ10 0
def RJxfd54e : String := "java/lang/constant/Constable"
def TJxfd54e : u_T := fun k => match k with
  | _ => ("", "", "", false)
def tyJxfd54e : Nat → FieldType := fun k => match k with
  | _ => .int
def RJx3cf43 : String := "java/lang/constant/ConstantDesc"
def TJx3cf43 : u_T := fun k => match k with
  | _ => ("", "", "", false)
def tyJx3cf43 : Nat → FieldType := fun k => match k with
  | _ => .int
def RJ7 : String := "java/util/Arrays"
def TJ7 : u_T := fun k => match k with
  | _ => ("", "", "", false)
def tyJ7 : Nat → FieldType := fun k => match k with
  | _ => .int
abbrev wsJ70 : List Cond := u_ws RJ7 TJ7 0
abbrev cJ7_fill_d0a16 : ByteArray := prog_18_method_101_code
def yJ7_fill_d0a16 : MethodName := ⟨RJ7, "fill", "([JJ)V"⟩
abbrev cJ7_fill_53178 : ByteArray := prog_18_method_103_code
def yJ7_fill_53178 : MethodName := ⟨RJ7, "fill", "([II)V"⟩
abbrev cJ7_copyOf_59c91 : ByteArray := prog_18_method_123_code
def yJ7_copyOf_59c91 : MethodName := ⟨RJ7, "copyOf", "([II)[I"⟩
def RJ3 : String := "jdk/internal/util/Preconditions"
def TJ3 : u_T := fun k => match k with
  | _ => ("", "", "", false)
def tyJ3 : Nat → FieldType := fun k => match k with
  | _ => .int
abbrev wsJ30 : List Cond := u_ws RJ3 TJ3 0
abbrev cJ3_checkIndex_8e157 : ByteArray := prog_19_method_11_code
def yJ3_checkIndex_8e157 : MethodName := ⟨RJ3, "checkIndex", "(IILjava/util/function/BiFunction;)I"⟩
abbrev cJ3_checkFromToIndex_8c36e : ByteArray := prog_19_method_12_code
def yJ3_checkFromToIndex_8c36e : MethodName := ⟨RJ3, "checkFromToIndex", "(IIILjava/util/function/BiFunction;)I"⟩
def RL : String := "AmberGrainsLaw"
abbrev cL_law : ByteArray := code
def yL_law : MethodName := ⟨RL, "law", "([I)Z"⟩
theorem inX0 : ∀ w ∈ wsX00, w ∈ TB := by
  intro w h
  obtain ⟨k, hk, rfl⟩ := List.mem_map.mp h
  have hk2 : k < 7 := List.mem_range.mp hk
  exact (match k, hk2 with | 0, _ => tb_at 190 (by decide +kernel) (by decide +kernel) | 1, _ => tb_at 192 (by decide +kernel) (by decide +kernel) | 2, _ => tb_at 194 (by decide +kernel) (by decide +kernel) | 3, _ => tb_at 196 (by decide +kernel) (by decide +kernel) | 4, _ => tb_at 198 (by decide +kernel) (by decide +kernel) | 5, _ => tb_at 200 (by decide +kernel) (by decide +kernel) | 6, _ => tb_at 202 (by decide +kernel) (by decide +kernel) | k + 7, h => absurd h (by omega))
theorem inX1 : ∀ w ∈ wsX10, w ∈ TB := by
  intro w h
  obtain ⟨k, hk, rfl⟩ := List.mem_map.mp h
  have hk2 : k < 3 := List.mem_range.mp hk
  exact (match k, hk2 with | 0, _ => tb_at 169 (by decide +kernel) (by decide +kernel) | 1, _ => tb_at 171 (by decide +kernel) (by decide +kernel) | 2, _ => tb_at 173 (by decide +kernel) (by decide +kernel) | k + 3, h => absurd h (by omega))
theorem inX2 : ∀ w ∈ wsX20, w ∈ TB := by
  intro w h
  obtain ⟨k, hk, rfl⟩ := List.mem_map.mp h
  have hk2 : k < 2 := List.mem_range.mp hk
  exact (match k, hk2 with | 0, _ => tb_at 578 (by decide +kernel) (by decide +kernel) | 1, _ => tb_at 580 (by decide +kernel) (by decide +kernel) | k + 2, h => absurd h (by omega))
theorem inX3 : ∀ w ∈ wsX30, w ∈ TB := by
  intro w h
  obtain ⟨k, hk, rfl⟩ := List.mem_map.mp h
  have hk2 : k < 3 := List.mem_range.mp hk
  exact (match k, hk2 with | 0, _ => tb_at 242 (by decide +kernel) (by decide +kernel) | 1, _ => tb_at 244 (by decide +kernel) (by decide +kernel) | 2, _ => tb_at 246 (by decide +kernel) (by decide +kernel) | k + 3, h => absurd h (by omega))
theorem inX4 : ∀ w ∈ wsX40, w ∈ TB := by
  intro w h
  obtain ⟨k, hk, rfl⟩ := List.mem_map.mp h
  have hk2 : k < 5 := List.mem_range.mp hk
  exact (match k, hk2 with | 0, _ => tb_at 220 (by decide +kernel) (by decide +kernel) | 1, _ => tb_at 222 (by decide +kernel) (by decide +kernel) | 2, _ => tb_at 224 (by decide +kernel) (by decide +kernel) | 3, _ => tb_at 226 (by decide +kernel) (by decide +kernel) | 4, _ => tb_at 228 (by decide +kernel) (by decide +kernel) | k + 5, h => absurd h (by omega))
theorem inX5 : ∀ w ∈ wsX50, w ∈ TB := by
  intro w h
  obtain ⟨k, hk, rfl⟩ := List.mem_map.mp h
  have hk2 : k < 15 := List.mem_range.mp hk
  exact (match k, hk2 with | 0, _ => tb_at 125 (by decide +kernel) (by decide +kernel) | 1, _ => tb_at 127 (by decide +kernel) (by decide +kernel) | 2, _ => tb_at 129 (by decide +kernel) (by decide +kernel) | 3, _ => tb_at 131 (by decide +kernel) (by decide +kernel) | 4, _ => tb_at 133 (by decide +kernel) (by decide +kernel) | 5, _ => tb_at 135 (by decide +kernel) (by decide +kernel) | 6, _ => tb_at 137 (by decide +kernel) (by decide +kernel) | 7, _ => tb_at 139 (by decide +kernel) (by decide +kernel) | 8, _ => tb_at 141 (by decide +kernel) (by decide +kernel) | 9, _ => tb_at 143 (by decide +kernel) (by decide +kernel) | 10, _ => tb_at 145 (by decide +kernel) (by decide +kernel) | 11, _ => tb_at 147 (by decide +kernel) (by decide +kernel) | 12, _ => tb_at 149 (by decide +kernel) (by decide +kernel) | 13, _ => tb_at 151 (by decide +kernel) (by decide +kernel) | 14, _ => tb_at 153 (by decide +kernel) (by decide +kernel) | k + 15, h => absurd h (by omega))
theorem inX6 : ∀ w ∈ wsX60, w ∈ TB := by
  intro w h
  obtain ⟨k, hk, rfl⟩ := List.mem_map.mp h
  have hk2 : k < 14 := List.mem_range.mp hk
  exact (match k, hk2 with | 0, _ => tb_at 264 (by decide +kernel) (by decide +kernel) | 1, _ => tb_at 266 (by decide +kernel) (by decide +kernel) | 2, _ => tb_at 268 (by decide +kernel) (by decide +kernel) | 3, _ => tb_at 270 (by decide +kernel) (by decide +kernel) | 4, _ => tb_at 272 (by decide +kernel) (by decide +kernel) | 5, _ => tb_at 274 (by decide +kernel) (by decide +kernel) | 6, _ => tb_at 276 (by decide +kernel) (by decide +kernel) | 7, _ => tb_at 278 (by decide +kernel) (by decide +kernel) | 8, _ => tb_at 280 (by decide +kernel) (by decide +kernel) | 9, _ => tb_at 282 (by decide +kernel) (by decide +kernel) | 10, _ => tb_at 284 (by decide +kernel) (by decide +kernel) | 11, _ => tb_at 286 (by decide +kernel) (by decide +kernel) | 12, _ => tb_at 288 (by decide +kernel) (by decide +kernel) | 13, _ => tb_at 290 (by decide +kernel) (by decide +kernel) | k + 14, h => absurd h (by omega))
theorem inX7 : ∀ w ∈ wsX70, w ∈ TB := by
  intro w h
  obtain ⟨k, hk, rfl⟩ := List.mem_map.mp h
  have hk2 : k < 28 := List.mem_range.mp hk
  exact (match k, hk2 with | 0, _ => tb_at 817 (by decide +kernel) (by decide +kernel) | 1, _ => tb_at 819 (by decide +kernel) (by decide +kernel) | 2, _ => tb_at 821 (by decide +kernel) (by decide +kernel) | 3, _ => tb_at 823 (by decide +kernel) (by decide +kernel) | 4, _ => tb_at 825 (by decide +kernel) (by decide +kernel) | 5, _ => tb_at 827 (by decide +kernel) (by decide +kernel) | 6, _ => tb_at 829 (by decide +kernel) (by decide +kernel) | 7, _ => tb_at 831 (by decide +kernel) (by decide +kernel) | 8, _ => tb_at 833 (by decide +kernel) (by decide +kernel) | 9, _ => tb_at 835 (by decide +kernel) (by decide +kernel) | 10, _ => tb_at 837 (by decide +kernel) (by decide +kernel) | 11, _ => tb_at 839 (by decide +kernel) (by decide +kernel) | 12, _ => tb_at 841 (by decide +kernel) (by decide +kernel) | 13, _ => tb_at 843 (by decide +kernel) (by decide +kernel) | 14, _ => tb_at 845 (by decide +kernel) (by decide +kernel) | 15, _ => tb_at 847 (by decide +kernel) (by decide +kernel) | 16, _ => tb_at 849 (by decide +kernel) (by decide +kernel) | 17, _ => tb_at 851 (by decide +kernel) (by decide +kernel) | 18, _ => tb_at 853 (by decide +kernel) (by decide +kernel) | 19, _ => tb_at 855 (by decide +kernel) (by decide +kernel) | 20, _ => tb_at 857 (by decide +kernel) (by decide +kernel) | 21, _ => tb_at 859 (by decide +kernel) (by decide +kernel) | 22, _ => tb_at 861 (by decide +kernel) (by decide +kernel) | 23, _ => tb_at 863 (by decide +kernel) (by decide +kernel) | 24, _ => tb_at 865 (by decide +kernel) (by decide +kernel) | 25, _ => tb_at 867 (by decide +kernel) (by decide +kernel) | 26, _ => tb_at 869 (by decide +kernel) (by decide +kernel) | 27, _ => tb_at 871 (by decide +kernel) (by decide +kernel) | k + 28, h => absurd h (by omega))
end
section
theorem q0 : Cond.selects RX5 yX5_fillLetters yX5_fillLetters ∈ TB := tb_at 0 (by decide +kernel) (by decide +kernel)
theorem q1 : Cond.selects RX5 yX5_twinsShare yX5_twinsShare ∈ TB := tb_at 1 (by decide +kernel) (by decide +kernel)
theorem q2 : Cond.selects RX6 yX6_blowOf yX6_blowOf ∈ TB := tb_at 2 (by decide +kernel) (by decide +kernel)
theorem q3 : Cond.selects RX6 yX6_trialComes yX6_trialComes ∈ TB := tb_at 3 (by decide +kernel) (by decide +kernel)
theorem q4 : Cond.selects RX5 yX5_bringUp yX5_bringUp ∈ TB := tb_at 4 (by decide +kernel) (by decide +kernel)
theorem q5 : Cond.selects RX5 yX5_drift yX5_drift ∈ TB := tb_at 5 (by decide +kernel) (by decide +kernel)
theorem q6 : Cond.selects RX6 yX6_newsOf yX6_newsOf ∈ TB := tb_at 6 (by decide +kernel) (by decide +kernel)
theorem q7 : Cond.selects RX0 yX0_clause yX0_clause ∈ TB := tb_at 7 (by decide +kernel) (by decide +kernel)
theorem q8 : Cond.selects RX0 yX0_sign yX0_sign ∈ TB := tb_at 8 (by decide +kernel) (by decide +kernel)
theorem q9 : Cond.selects RX0 yX0_letters yX0_letters ∈ TB := tb_at 9 (by decide +kernel) (by decide +kernel)
theorem q10 : Cond.selects RX0 yX0_number yX0_number ∈ TB := tb_at 10 (by decide +kernel) (by decide +kernel)
theorem q11 : Cond.selects RX0 yX0_either yX0_either ∈ TB := tb_at 11 (by decide +kernel) (by decide +kernel)
theorem q12 : Cond.selects RX0 yX0_single yX0_single ∈ TB := tb_at 12 (by decide +kernel) (by decide +kernel)
theorem q13 : Cond.selects RX0 yX0_test yX0_test ∈ TB := tb_at 13 (by decide +kernel) (by decide +kernel)
theorem q14 : Cond.selects RX0 yX0_step yX0_step ∈ TB := tb_at 14 (by decide +kernel) (by decide +kernel)
theorem q15 : Cond.selects RX6 yX6_trialFromFinderAt yX6_trialFromFinderAt ∈ TB := tb_at 15 (by decide +kernel) (by decide +kernel)
theorem q16 : Cond.selects RX6 yX6_trialIsAsSeen yX6_trialIsAsSeen ∈ TB := tb_at 16 (by decide +kernel) (by decide +kernel)
theorem q17 : Cond.selects RX6 yX6_trialIsAsSeenOn yX6_trialIsAsSeenOn ∈ TB := tb_at 17 (by decide +kernel) (by decide +kernel)
theorem q18 : Cond.selects RX6 yX6_trialDoes yX6_trialDoes ∈ TB := tb_at 18 (by decide +kernel) (by decide +kernel)
theorem q19 : Cond.selects RX4 yX4_from yX4_from ∈ TB := tb_at 19 (by decide +kernel) (by decide +kernel)
theorem q20 : Cond.selects RX4 yX4_body yX4_body ∈ TB := tb_at 20 (by decide +kernel) (by decide +kernel)
theorem q21 : Cond.selects RX7 yX7_isOne yX7_isOne ∈ TB := tb_at 21 (by decide +kernel) (by decide +kernel)
theorem q22 : Cond.selects RX7 yX7_one yX7_one ∈ TB := tb_at 22 (by decide +kernel) (by decide +kernel)
theorem q23 : Cond.selects RX7 yX7_load yX7_load ∈ TB := tb_at 23 (by decide +kernel) (by decide +kernel)
theorem q24 : Cond.selects RX7 yX7_readFor yX7_readFor ∈ TB := tb_at 24 (by decide +kernel) (by decide +kernel)
theorem q25 : Cond.selects RX7 yX7_readAll yX7_readAll ∈ TB := tb_at 25 (by decide +kernel) (by decide +kernel)
theorem q26 : Cond.selects RX7 yX7_clause yX7_clause ∈ TB := tb_at 26 (by decide +kernel) (by decide +kernel)
theorem q27 : Cond.selects RX7 yX7_isAt yX7_isAt ∈ TB := tb_at 27 (by decide +kernel) (by decide +kernel)
theorem q28 : Cond.selects RX7 yX7_takes yX7_takes ∈ TB := tb_at 28 (by decide +kernel) (by decide +kernel)
theorem q29 : Cond.selects RX7 yX7_number yX7_number ∈ TB := tb_at 29 (by decide +kernel) (by decide +kernel)
theorem q30 : Cond.selects RX7 yX7_isDigit yX7_isDigit ∈ TB := tb_at 30 (by decide +kernel) (by decide +kernel)
theorem q31 : Cond.selects RX7 yX7_any yX7_any ∈ TB := tb_at 31 (by decide +kernel) (by decide +kernel)
theorem q32 : Cond.selects RX7 yX7_both yX7_both ∈ TB := tb_at 32 (by decide +kernel) (by decide +kernel)
theorem q33 : Cond.selects RX7 yX7_factor yX7_factor ∈ TB := tb_at 33 (by decide +kernel) (by decide +kernel)
theorem q34 : Cond.selects RX7 yX7_test yX7_test ∈ TB := tb_at 34 (by decide +kernel) (by decide +kernel)
theorem q35 : Cond.selects RX7 yX7_isAnotherTwin yX7_isAnotherTwin ∈ TB := tb_at 35 (by decide +kernel) (by decide +kernel)
theorem q36 : Cond.selects RX7 yX7_isAs yX7_isAs ∈ TB := tb_at 36 (by decide +kernel) (by decide +kernel)
theorem q37 : Cond.selects RX7 yX7_blow yX7_blow ∈ TB := tb_at 37 (by decide +kernel) (by decide +kernel)
theorem q38 : Cond.selects RX7 yX7_comes yX7_comes ∈ TB := tb_at 38 (by decide +kernel) (by decide +kernel)
theorem q39 : Cond.selects RX7 yX7_day yX7_day ∈ TB := tb_at 39 (by decide +kernel) (by decide +kernel)
theorem q40 : Cond.selects RX7 yX7_bringUp yX7_bringUp ∈ TB := tb_at 40 (by decide +kernel) (by decide +kernel)
theorem q41 : Cond.selects RX7 yX7_loads yX7_loads ∈ TB := tb_at 41 (by decide +kernel) (by decide +kernel)
theorem q42 : Cond.selects RX7 yX7_roomNow yX7_roomNow ∈ TB := tb_at 42 (by decide +kernel) (by decide +kernel)
theorem q43 : Cond.selects RX7 yX7_change yX7_change ∈ TB := tb_at 43 (by decide +kernel) (by decide +kernel)
theorem q44 : Cond.selects RX7 yX7_news yX7_news ∈ TB := tb_at 44 (by decide +kernel) (by decide +kernel)
theorem q45 : Cond.selects RX7 yX7_says yX7_says ∈ TB := tb_at 45 (by decide +kernel) (by decide +kernel)
theorem q46 : Cond.selects RX7 yX7_howMany yX7_howMany ∈ TB := tb_at 46 (by decide +kernel) (by decide +kernel)
theorem q47 : Cond.selects RX7 yX7_which yX7_which ∈ TB := tb_at 47 (by decide +kernel) (by decide +kernel)
theorem q48 : Cond.selects RX7 yX7_days yX7_days ∈ TB := tb_at 48 (by decide +kernel) (by decide +kernel)
theorem q49 : Cond.selects RX7 yX7_fits yX7_fits ∈ TB := tb_at 49 (by decide +kernel) (by decide +kernel)
theorem q50 : Cond.selects RX7 yX7_isAllSeen yX7_isAllSeen ∈ TB := tb_at 50 (by decide +kernel) (by decide +kernel)
theorem q51 : Cond.selects RX7 yX7_all yX7_all ∈ TB := tb_at 51 (by decide +kernel) (by decide +kernel)
theorem q52 : Cond.selects RX7 yX7_byKind yX7_byKind ∈ TB := tb_at 52 (by decide +kernel) (by decide +kernel)
theorem q53 : Cond.selects RX7 yX7_body yX7_body ∈ TB := tb_at 53 (by decide +kernel) (by decide +kernel)
theorem q54 : Cond.initialized "AmberGrainsLaw" ∈ TB := tb_at 54 (by decide +kernel) (by decide +kernel)
theorem q55 : Cond.initialized RX6 ∈ TB := tb_at 55 (by decide +kernel) (by decide +kernel)
theorem q56 : Cond.initialized RX5 ∈ TB := tb_at 56 (by decide +kernel) (by decide +kernel)
theorem q57 : Cond.initialized RJ0 ∈ TB := tb_at 57 (by decide +kernel) (by decide +kernel)
theorem q58 : Cond.initialized RX1 ∈ TB := tb_at 58 (by decide +kernel) (by decide +kernel)
theorem q59 : Cond.initialized RX0 ∈ TB := tb_at 59 (by decide +kernel) (by decide +kernel)
theorem q60 : Cond.initialized RX4 ∈ TB := tb_at 60 (by decide +kernel) (by decide +kernel)
theorem q61 : Cond.initialized RX3 ∈ TB := tb_at 61 (by decide +kernel) (by decide +kernel)
theorem q62 : Cond.initialized RX7 ∈ TB := tb_at 62 (by decide +kernel) (by decide +kernel)
theorem q63 : Cond.initialized "java/lang/Math" ∈ TB := tb_at 63 (by decide +kernel) (by decide +kernel)
theorem q64 : Cond.initialized "java/lang/System" ∈ TB := tb_at 64 (by decide +kernel) (by decide +kernel)
theorem q65 : Cond.initialized RJ7 ∈ TB := tb_at 65 (by decide +kernel) (by decide +kernel)
theorem q66 : Cond.initialized RJ6 ∈ TB := tb_at 66 (by decide +kernel) (by decide +kernel)
theorem q67 : Cond.initialized RJ1 ∈ TB := tb_at 67 (by decide +kernel) (by decide +kernel)
theorem q68 : Cond.initialized RJ3 ∈ TB := tb_at 68 (by decide +kernel) (by decide +kernel)
theorem q69 : Cond.initialized RJ2 ∈ TB := tb_at 69 (by decide +kernel) (by decide +kernel)
theorem q70 : Cond.initialized RJ11 ∈ TB := tb_at 70 (by decide +kernel) (by decide +kernel)
theorem q71 : Cond.initialized RX2 ∈ TB := tb_at 71 (by decide +kernel) (by decide +kernel)
theorem q72 : Cond.classLink RL 7 RX6 ∈ TB := tb_at 72 (by decide +kernel) (by decide +kernel)
theorem q73 : Cond.instantiable RX6 14 ∈ TB := tb_at 73 (by decide +kernel) (by decide +kernel)
theorem q74 : Cond.methodLink RL 9 yX6_init ∈ TB := tb_at 74 (by decide +kernel) (by decide +kernel)
theorem q75 : Cond.instanceMethod yX6_init ∈ TB := tb_at 75 (by decide +kernel) (by decide +kernel)
theorem q76 : Cond.code yX6_init cX6_init 2 none ∈ TB := tb_at 76 (by decide +kernel) (by decide +kernel)
theorem q77 : Cond.methodLink "AmberGrains" 3 objectInit ∈ TB := tb_at 77 (by decide +kernel) (by decide +kernel)
theorem q78 : Cond.instanceMethod objectInit ∈ TB := tb_at 78 (by decide +kernel) (by decide +kernel)
theorem q79 : Cond.code objectInit ⟨#[0xb1]⟩ 1 none ∈ TB := tb_at 79 (by decide +kernel) (by decide +kernel)
theorem q80 : Cond.classLink RX6 9 RX5 ∈ TB := tb_at 80 (by decide +kernel) (by decide +kernel)
theorem q81 : Cond.instantiable RX5 15 ∈ TB := tb_at 81 (by decide +kernel) (by decide +kernel)
theorem q82 : Cond.methodLink RX6 13 yX5_init ∈ TB := tb_at 82 (by decide +kernel) (by decide +kernel)
theorem q83 : Cond.instanceMethod yX5_init ∈ TB := tb_at 83 (by decide +kernel) (by decide +kernel)
theorem q84 : Cond.code yX5_init cX5_init 2 none ∈ TB := tb_at 84 (by decide +kernel) (by decide +kernel)
theorem q85 : Cond.methodLink "AmberGrains$World" 3 objectInit ∈ TB := tb_at 85 (by decide +kernel) (by decide +kernel)
theorem q87 : Cond.methodLink RX5 40 yJ0_length_8abf5 ∈ TB := tb_at 87 (by decide +kernel) (by decide +kernel)
theorem q88 : Cond.instanceMethod yJ0_length_8abf5 ∈ TB := tb_at 88 (by decide +kernel) (by decide +kernel)
theorem q89 : Cond.selects RJ0 yJ0_length_8abf5 yJ0_length_8abf5 ∈ TB := tb_at 89 (by decide +kernel) (by decide +kernel)
theorem q90 : Cond.code yJ0_length_8abf5 cJ0_length_8abf5 1 (some .int) ∈ TB := tb_at 90 (by decide +kernel) (by decide +kernel)
theorem q91 : Cond.methodLink RJ0 335 yJ0_coder_7d493 ∈ TB := tb_at 91 (by decide +kernel) (by decide +kernel)
theorem q92 : Cond.instanceMethod yJ0_coder_7d493 ∈ TB := tb_at 92 (by decide +kernel) (by decide +kernel)
theorem q93 : Cond.selects RJ0 yJ0_coder_7d493 yJ0_coder_7d493 ∈ TB := tb_at 93 (by decide +kernel) (by decide +kernel)
theorem q94 : Cond.code yJ0_coder_7d493 cJ0_coder_7d493 1 (some .byte) ∈ TB := tb_at 94 (by decide +kernel) (by decide +kernel)
theorem q95 : Cond.fieldLink RJ0 38 "java/lang/String" "COMPACT_STRINGS" "Z" ∈ TB := tb_at 95 (by decide +kernel) (by decide +kernel)
theorem q97 : Cond.fieldLink RX5 66 "AmberGrains$World" "oldest" "I" ∈ TB := tb_at 97 (by decide +kernel) (by decide +kernel)
theorem q98 : Cond.fieldLink RX5 9 "AmberGrains$World" "kind" "[I" ∈ TB := tb_at 98 (by decide +kernel) (by decide +kernel)
theorem q99 : Cond.fieldLink RX6 91 "AmberGrains$World" "kind" "[I" ∈ TB := tb_at 99 (by decide +kernel) (by decide +kernel)
theorem q100 : Cond.fieldLink RX5 15 "AmberGrains$World" "v" "[I" ∈ TB := tb_at 100 (by decide +kernel) (by decide +kernel)
theorem q101 : Cond.fieldLink RX6 95 "AmberGrains$World" "v" "[I" ∈ TB := tb_at 101 (by decide +kernel) (by decide +kernel)
theorem q102 : Cond.fieldLink RX5 18 "AmberGrains$World" "weight" "[I" ∈ TB := tb_at 102 (by decide +kernel) (by decide +kernel)
theorem q103 : Cond.fieldLink RX6 98 "AmberGrains$World" "weight" "[I" ∈ TB := tb_at 103 (by decide +kernel) (by decide +kernel)
theorem q104 : Cond.fieldLink RX5 21 "AmberGrains$World" "state" "[I" ∈ TB := tb_at 104 (by decide +kernel) (by decide +kernel)
theorem q105 : Cond.fieldLink RX6 101 "AmberGrains$World" "state" "[I" ∈ TB := tb_at 105 (by decide +kernel) (by decide +kernel)
theorem q106 : Cond.fieldLink RX5 24 "AmberGrains$World" "age" "[I" ∈ TB := tb_at 106 (by decide +kernel) (by decide +kernel)
theorem q107 : Cond.fieldLink RX6 104 "AmberGrains$World" "age" "[I" ∈ TB := tb_at 107 (by decide +kernel) (by decide +kernel)
theorem q108 : Cond.fieldLink RX5 27 "AmberGrains$World" "place" "[I" ∈ TB := tb_at 108 (by decide +kernel) (by decide +kernel)
theorem q109 : Cond.fieldLink RX6 107 "AmberGrains$World" "place" "[I" ∈ TB := tb_at 109 (by decide +kernel) (by decide +kernel)
theorem q110 : Cond.fieldLink RX5 30 "AmberGrains$World" "row" "[I" ∈ TB := tb_at 110 (by decide +kernel) (by decide +kernel)
theorem q111 : Cond.fieldLink RX6 150 "AmberGrains$World" "row" "[I" ∈ TB := tb_at 111 (by decide +kernel) (by decide +kernel)
theorem q112 : Cond.fieldLink RX5 33 "AmberGrains$World" "current" "[I" ∈ TB := tb_at 112 (by decide +kernel) (by decide +kernel)
theorem q113 : Cond.fieldLink RX6 147 "AmberGrains$World" "current" "[I" ∈ TB := tb_at 113 (by decide +kernel) (by decide +kernel)
theorem q114 : Cond.fieldLink RX5 46 "AmberGrains$World" "letters" "[I" ∈ TB := tb_at 114 (by decide +kernel) (by decide +kernel)
theorem q115 : Cond.fieldLink RX5 49 "AmberGrains$World" "tellers" "I" ∈ TB := tb_at 115 (by decide +kernel) (by decide +kernel)
theorem q116 : Cond.fieldLink RX6 80 "AmberGrains$World" "tellers" "I" ∈ TB := tb_at 116 (by decide +kernel) (by decide +kernel)
theorem q117 : Cond.fieldLink RX5 53 "AmberGrains$World" "shore" "I" ∈ TB := tb_at 117 (by decide +kernel) (by decide +kernel)
theorem q118 : Cond.fieldLink RX6 141 "AmberGrains$World" "shore" "I" ∈ TB := tb_at 118 (by decide +kernel) (by decide +kernel)
theorem q119 : Cond.fieldLink RX5 56 "AmberGrains$World" "finder" "I" ∈ TB := tb_at 119 (by decide +kernel) (by decide +kernel)
theorem q120 : Cond.fieldLink RX6 144 "AmberGrains$World" "finder" "I" ∈ TB := tb_at 120 (by decide +kernel) (by decide +kernel)
theorem q121 : Cond.fieldLink RX5 59 "AmberGrains$World" "day" "I" ∈ TB := tb_at 121 (by decide +kernel) (by decide +kernel)
theorem q122 : Cond.fieldLink RX6 167 "AmberGrains$World" "day" "I" ∈ TB := tb_at 122 (by decide +kernel) (by decide +kernel)
theorem q123 : Cond.fieldLink RX5 62 "AmberGrains$World" "sea" "LAmberGrains$Sea;" ∈ TB := tb_at 123 (by decide +kernel) (by decide +kernel)
theorem q124 : Cond.fieldLink RX6 163 "AmberGrains$World" "sea" "LAmberGrains$Sea;" ∈ TB := tb_at 124 (by decide +kernel) (by decide +kernel)
theorem q156 : Cond.arrayClass .int ∈ TB := tb_at 156 (by decide +kernel) (by decide +kernel)
theorem q157 : Cond.arrayClass .byte ∈ TB := tb_at 157 (by decide +kernel) (by decide +kernel)
theorem q158 : Cond.constant RX6 22 (2147483647) ∈ TB := tb_at 158 (by decide +kernel) (by decide +kernel)
theorem q159 : Cond.classLink RX6 33 RX1 ∈ TB := tb_at 159 (by decide +kernel) (by decide +kernel)
theorem q160 : Cond.instantiable RX1 3 ∈ TB := tb_at 160 (by decide +kernel) (by decide +kernel)
theorem q161 : Cond.methodLink RX6 35 yX1_init ∈ TB := tb_at 161 (by decide +kernel) (by decide +kernel)
theorem q162 : Cond.instanceMethod yX1_init ∈ TB := tb_at 162 (by decide +kernel) (by decide +kernel)
theorem q163 : Cond.code yX1_init cX1_init 2 none ∈ TB := tb_at 163 (by decide +kernel) (by decide +kernel)
theorem q164 : Cond.methodLink "AmberGrains$Rows" 3 objectInit ∈ TB := tb_at 164 (by decide +kernel) (by decide +kernel)
theorem q165 : Cond.fieldLink RX1 15 "AmberGrains$Rows" "most" "I" ∈ TB := tb_at 165 (by decide +kernel) (by decide +kernel)
theorem q166 : Cond.fieldLink RX1 18 "AmberGrains$Rows" "cells" "[I" ∈ TB := tb_at 166 (by decide +kernel) (by decide +kernel)
theorem q167 : Cond.fieldLink RX1 9 "AmberGrains$Rows" "size" "I" ∈ TB := tb_at 167 (by decide +kernel) (by decide +kernel)
theorem q176 : Cond.classLink RX6 55 RX0 ∈ TB := tb_at 176 (by decide +kernel) (by decide +kernel)
theorem q177 : Cond.instantiable RX0 7 ∈ TB := tb_at 177 (by decide +kernel) (by decide +kernel)
theorem q179 : Cond.instanceMethod yX0_init ∈ TB := tb_at 179 (by decide +kernel) (by decide +kernel)
theorem q180 : Cond.code yX0_init cX0_init 1 none ∈ TB := tb_at 180 (by decide +kernel) (by decide +kernel)
theorem q181 : Cond.methodLink "AmberGrains$Reader" 3 objectInit ∈ TB := tb_at 181 (by decide +kernel) (by decide +kernel)
theorem q182 : Cond.fieldLink RX0 9 "AmberGrains$Reader" "text" "[B" ∈ TB := tb_at 182 (by decide +kernel) (by decide +kernel)
theorem q183 : Cond.fieldLink RX0 15 "AmberGrains$Reader" "steps" "[I" ∈ TB := tb_at 183 (by decide +kernel) (by decide +kernel)
theorem q184 : Cond.fieldLink RX0 19 "AmberGrains$Reader" "length" "I" ∈ TB := tb_at 184 (by decide +kernel) (by decide +kernel)
theorem q186 : Cond.fieldLink RX0 23 "AmberGrains$Reader" "at" "I" ∈ TB := tb_at 186 (by decide +kernel) (by decide +kernel)
theorem q187 : Cond.fieldLink RX0 26 "AmberGrains$Reader" "fits" "Z" ∈ TB := tb_at 187 (by decide +kernel) (by decide +kernel)
theorem q188 : Cond.fieldLink RX0 30 "AmberGrains$Reader" "stepsRead" "I" ∈ TB := tb_at 188 (by decide +kernel) (by decide +kernel)
theorem q189 : Cond.fieldLink RX0 33 "AmberGrains$Reader" "room" "I" ∈ TB := tb_at 189 (by decide +kernel) (by decide +kernel)
theorem q205 : Cond.classLink RX6 66 RX3 ∈ TB := tb_at 205 (by decide +kernel) (by decide +kernel)
theorem q207 : Cond.classLink RX6 72 RX4 ∈ TB := tb_at 207 (by decide +kernel) (by decide +kernel)
theorem q208 : Cond.instantiable RX4 5 ∈ TB := tb_at 208 (by decide +kernel) (by decide +kernel)
theorem q210 : Cond.instanceMethod yX4_init ∈ TB := tb_at 210 (by decide +kernel) (by decide +kernel)
theorem q211 : Cond.code yX4_init cX4_init 1 none ∈ TB := tb_at 211 (by decide +kernel) (by decide +kernel)
theorem q212 : Cond.methodLink "AmberGrains$Voice" 3 objectInit ∈ TB := tb_at 212 (by decide +kernel) (by decide +kernel)
theorem q213 : Cond.fieldLink RX4 9 "AmberGrains$Voice" "kept" "[I" ∈ TB := tb_at 213 (by decide +kernel) (by decide +kernel)
theorem q215 : Cond.fieldLink RX4 15 "AmberGrains$Voice" "ran" "I" ∈ TB := tb_at 215 (by decide +kernel) (by decide +kernel)
theorem q217 : Cond.fieldLink RX4 19 "AmberGrains$Voice" "i" "I" ∈ TB := tb_at 217 (by decide +kernel) (by decide +kernel)
theorem q218 : Cond.fieldLink RX4 22 "AmberGrains$Voice" "kind" "I" ∈ TB := tb_at 218 (by decide +kernel) (by decide +kernel)
theorem q219 : Cond.fieldLink RX4 25 "AmberGrains$Voice" "v" "I" ∈ TB := tb_at 219 (by decide +kernel) (by decide +kernel)
theorem q231 : Cond.instantiable RX3 3 ∈ TB := tb_at 231 (by decide +kernel) (by decide +kernel)
theorem q233 : Cond.instanceMethod yX3_init ∈ TB := tb_at 233 (by decide +kernel) (by decide +kernel)
theorem q234 : Cond.code yX3_init cX3_init 1 none ∈ TB := tb_at 234 (by decide +kernel) (by decide +kernel)
theorem q235 : Cond.methodLink "AmberGrains$Tape" 3 objectInit ∈ TB := tb_at 235 (by decide +kernel) (by decide +kernel)
theorem q236 : Cond.fieldLink RX3 9 "AmberGrains$Tape" "items" "[J" ∈ TB := tb_at 236 (by decide +kernel) (by decide +kernel)
theorem q238 : Cond.fieldLink RX3 15 "AmberGrains$Tape" "sort" "I" ∈ TB := tb_at 238 (by decide +kernel) (by decide +kernel)
theorem q240 : Cond.fieldLink RX3 19 "AmberGrains$Tape" "size" "I" ∈ TB := tb_at 240 (by decide +kernel) (by decide +kernel)
theorem q249 : Cond.arrayClass .long ∈ TB := tb_at 249 (by decide +kernel) (by decide +kernel)
theorem q250 : Cond.fieldLink RX6 16 "AmberGrains" "now" "LAmberGrains$World;" ∈ TB := tb_at 250 (by decide +kernel) (by decide +kernel)
theorem q251 : Cond.fieldLink RX6 23 "AmberGrains" "trial" "LAmberGrains$World;" ∈ TB := tb_at 251 (by decide +kernel) (by decide +kernel)
theorem q252 : Cond.fieldLink RX6 26 "AmberGrains" "imaged" "LAmberGrains$World;" ∈ TB := tb_at 252 (by decide +kernel) (by decide +kernel)
theorem q253 : Cond.fieldLink RX6 29 "AmberGrains" "hasImage" "Z" ∈ TB := tb_at 253 (by decide +kernel) (by decide +kernel)
theorem q254 : Cond.fieldLink RX6 36 "AmberGrains" "seen" "LAmberGrains$Rows;" ∈ TB := tb_at 254 (by decide +kernel) (by decide +kernel)
theorem q255 : Cond.fieldLink RX6 40 "AmberGrains" "plans" "LAmberGrains$Rows;" ∈ TB := tb_at 255 (by decide +kernel) (by decide +kernel)
theorem q256 : Cond.fieldLink RX6 43 "AmberGrains" "books" "LAmberGrains$Rows;" ∈ TB := tb_at 256 (by decide +kernel) (by decide +kernel)
theorem q257 : Cond.fieldLink RX6 46 "AmberGrains" "imagedSeen" "LAmberGrains$Rows;" ∈ TB := tb_at 257 (by decide +kernel) (by decide +kernel)
theorem q258 : Cond.fieldLink RX6 49 "AmberGrains" "imagedPlans" "LAmberGrains$Rows;" ∈ TB := tb_at 258 (by decide +kernel) (by decide +kernel)
theorem q259 : Cond.fieldLink RX6 52 "AmberGrains" "imagedBooks" "LAmberGrains$Rows;" ∈ TB := tb_at 259 (by decide +kernel) (by decide +kernel)
theorem q260 : Cond.fieldLink RX6 58 "AmberGrains" "reader" "LAmberGrains$Reader;" ∈ TB := tb_at 260 (by decide +kernel) (by decide +kernel)
theorem q261 : Cond.fieldLink RX6 62 "AmberGrains" "seas" "I" ∈ TB := tb_at 261 (by decide +kernel) (by decide +kernel)
theorem q262 : Cond.fieldLink RX6 68 "AmberGrains" "tapes" "[LAmberGrains$Tape;" ∈ TB := tb_at 262 (by decide +kernel) (by decide +kernel)
theorem q263 : Cond.fieldLink RX6 75 "AmberGrains" "voice" "LAmberGrains$Voice;" ∈ TB := tb_at 263 (by decide +kernel) (by decide +kernel)
theorem q293 : Cond.methodLink RL 13 yX6_teller ∈ TB := tb_at 293 (by decide +kernel) (by decide +kernel)
theorem q294 : Cond.instanceMethod yX6_teller ∈ TB := tb_at 294 (by decide +kernel) (by decide +kernel)
theorem q295 : Cond.selects RX6 yX6_teller yX6_teller ∈ TB := tb_at 295 (by decide +kernel) (by decide +kernel)
theorem q296 : Cond.code yX6_teller cX6_teller 4 (some .int) ∈ TB := tb_at 296 (by decide +kernel) (by decide +kernel)
theorem q297 : Cond.methodLink RX6 83 yX5_comesNew ∈ TB := tb_at 297 (by decide +kernel) (by decide +kernel)
theorem q298 : Cond.instanceMethod yX5_comesNew ∈ TB := tb_at 298 (by decide +kernel) (by decide +kernel)
theorem q299 : Cond.selects RX5 yX5_comesNew yX5_comesNew ∈ TB := tb_at 299 (by decide +kernel) (by decide +kernel)
theorem q300 : Cond.code yX5_comesNew cX5_comesNew 6 (some .int) ∈ TB := tb_at 300 (by decide +kernel) (by decide +kernel)
theorem q301 : Cond.methodLink RL 18 yX6_of ∈ TB := tb_at 301 (by decide +kernel) (by decide +kernel)
theorem q302 : Cond.instanceMethod yX6_of ∈ TB := tb_at 302 (by decide +kernel) (by decide +kernel)
theorem q303 : Cond.selects RX6 yX6_of yX6_of ∈ TB := tb_at 303 (by decide +kernel) (by decide +kernel)
theorem q304 : Cond.code yX6_of cX6_of 3 (some .int) ∈ TB := tb_at 304 (by decide +kernel) (by decide +kernel)
theorem q305 : Cond.methodLink RX6 87 yX5_has ∈ TB := tb_at 305 (by decide +kernel) (by decide +kernel)
theorem q306 : Cond.instanceMethod yX5_has ∈ TB := tb_at 306 (by decide +kernel) (by decide +kernel)
theorem q307 : Cond.selects RX5 yX5_has yX5_has ∈ TB := tb_at 307 (by decide +kernel) (by decide +kernel)
theorem q308 : Cond.code yX5_has cX5_has 2 (some .boolean) ∈ TB := tb_at 308 (by decide +kernel) (by decide +kernel)
theorem q309 : Cond.methodLink RX6 110 yX5_load ∈ TB := tb_at 309 (by decide +kernel) (by decide +kernel)
theorem q310 : Cond.instanceMethod yX5_load ∈ TB := tb_at 310 (by decide +kernel) (by decide +kernel)
theorem q311 : Cond.selects RX5 yX5_load yX5_load ∈ TB := tb_at 311 (by decide +kernel) (by decide +kernel)
theorem q312 : Cond.code yX5_load cX5_load 3 (some .int) ∈ TB := tb_at 312 (by decide +kernel) (by decide +kernel)
theorem q313 : Cond.methodLink RX5 82 yX5_fillLetters ∈ TB := tb_at 313 (by decide +kernel) (by decide +kernel)
theorem q315 : Cond.instanceMethod yX5_fillLetters ∈ TB := tb_at 315 (by decide +kernel) (by decide +kernel)
theorem q316 : Cond.code yX5_fillLetters cX5_fillLetters 2 none ∈ TB := tb_at 316 (by decide +kernel) (by decide +kernel)
theorem q317 : Cond.methodLink RX5 86 yX2_adds ∈ TB := tb_at 317 (by decide +kernel) (by decide +kernel)
theorem q318 : Cond.instanceMethod yX2_adds ∈ TB := tb_at 318 (by decide +kernel) (by decide +kernel)
theorem q319 : Cond.selects RX2 yX2_adds yX2_adds ∈ TB := tb_at 319 (by decide +kernel) (by decide +kernel)
theorem q320 : Cond.code yX2_adds cX2_adds 9 (some .int) ∈ TB := tb_at 320 (by decide +kernel) (by decide +kernel)
theorem q321 : Cond.methodLink RX5 90 yX5_twinsShare ∈ TB := tb_at 321 (by decide +kernel) (by decide +kernel)
theorem q323 : Cond.instanceMethod yX5_twinsShare ∈ TB := tb_at 323 (by decide +kernel) (by decide +kernel)
theorem q324 : Cond.code yX5_twinsShare cX5_twinsShare 3 (some .int) ∈ TB := tb_at 324 (by decide +kernel) (by decide +kernel)
theorem q325 : Cond.methodLink "AmberGrains$World" 93 Lib.Math.min.name ∈ TB := tb_at 325 (by decide +kernel) (by decide +kernel)
theorem q326 : Cond.static Lib.Math.min.name ∈ TB := tb_at 326 (by decide +kernel) (by decide +kernel)
theorem q327 : Cond.code Lib.Math.min.name Lib.Math.min.code 2 (some .int) ∈ TB := tb_at 327 (by decide +kernel) (by decide +kernel)
theorem q328 : Cond.methodLink RX6 114 yX6_blowOf ∈ TB := tb_at 328 (by decide +kernel) (by decide +kernel)
theorem q330 : Cond.instanceMethod yX6_blowOf ∈ TB := tb_at 330 (by decide +kernel) (by decide +kernel)
theorem q331 : Cond.code yX6_blowOf cX6_blowOf 6 (some .int) ∈ TB := tb_at 331 (by decide +kernel) (by decide +kernel)
theorem q332 : Cond.methodLink RX6 120 yX5_becomes ∈ TB := tb_at 332 (by decide +kernel) (by decide +kernel)
theorem q333 : Cond.instanceMethod yX5_becomes ∈ TB := tb_at 333 (by decide +kernel) (by decide +kernel)
theorem q334 : Cond.selects RX5 yX5_becomes yX5_becomes ∈ TB := tb_at 334 (by decide +kernel) (by decide +kernel)
theorem q335 : Cond.code yX5_becomes cX5_becomes 2 none ∈ TB := tb_at 335 (by decide +kernel) (by decide +kernel)
theorem q336 : Cond.methodLink "AmberGrains$World" 69 arraycopyName ∈ TB := tb_at 336 (by decide +kernel) (by decide +kernel)
theorem q337 : Cond.static arraycopyName ∈ TB := tb_at 337 (by decide +kernel) (by decide +kernel)
theorem q338 : Cond.native arraycopyName ∈ TB := tb_at 338 (by decide +kernel) (by decide +kernel)
theorem q339 : Cond.methodLink RX6 256 yJ7_fill_53178 ∈ TB := tb_at 339 (by decide +kernel) (by decide +kernel)
theorem q340 : Cond.static yJ7_fill_53178 ∈ TB := tb_at 340 (by decide +kernel) (by decide +kernel)
theorem q341 : Cond.code yJ7_fill_53178 cJ7_fill_53178 4 none ∈ TB := tb_at 341 (by decide +kernel) (by decide +kernel)
theorem q342 : Cond.methodLink RX6 124 yX6_trialComes ∈ TB := tb_at 342 (by decide +kernel) (by decide +kernel)
theorem q344 : Cond.instanceMethod yX6_trialComes ∈ TB := tb_at 344 (by decide +kernel) (by decide +kernel)
theorem q345 : Cond.code yX6_trialComes cX6_trialComes 4 (some .int) ∈ TB := tb_at 345 (by decide +kernel) (by decide +kernel)
theorem q346 : Cond.methodLink RX6 262 yX5_dayGoes ∈ TB := tb_at 346 (by decide +kernel) (by decide +kernel)
theorem q347 : Cond.instanceMethod yX5_dayGoes ∈ TB := tb_at 347 (by decide +kernel) (by decide +kernel)
theorem q348 : Cond.selects RX5 yX5_dayGoes yX5_dayGoes ∈ TB := tb_at 348 (by decide +kernel) (by decide +kernel)
theorem q349 : Cond.code yX5_dayGoes cX5_dayGoes 2 none ∈ TB := tb_at 349 (by decide +kernel) (by decide +kernel)
theorem q350 : Cond.methodLink RX5 102 yX5_bringUp ∈ TB := tb_at 350 (by decide +kernel) (by decide +kernel)
theorem q352 : Cond.instanceMethod yX5_bringUp ∈ TB := tb_at 352 (by decide +kernel) (by decide +kernel)
theorem q353 : Cond.code yX5_bringUp cX5_bringUp 6 none ∈ TB := tb_at 353 (by decide +kernel) (by decide +kernel)
theorem q354 : Cond.methodLink RX5 78 yX5_load ∈ TB := tb_at 354 (by decide +kernel) (by decide +kernel)
theorem q355 : Cond.methodLink RX5 108 yX5_room ∈ TB := tb_at 355 (by decide +kernel) (by decide +kernel)
theorem q356 : Cond.instanceMethod yX5_room ∈ TB := tb_at 356 (by decide +kernel) (by decide +kernel)
theorem q357 : Cond.selects RX5 yX5_room yX5_room ∈ TB := tb_at 357 (by decide +kernel) (by decide +kernel)
theorem q358 : Cond.code yX5_room cX5_room 1 (some .int) ∈ TB := tb_at 358 (by decide +kernel) (by decide +kernel)
theorem q359 : Cond.methodLink RX5 105 yX5_drift ∈ TB := tb_at 359 (by decide +kernel) (by decide +kernel)
theorem q361 : Cond.instanceMethod yX5_drift ∈ TB := tb_at 361 (by decide +kernel) (by decide +kernel)
theorem q362 : Cond.code yX5_drift cX5_drift 3 none ∈ TB := tb_at 362 (by decide +kernel) (by decide +kernel)
theorem q363 : Cond.methodLink RX6 117 yX6_newsOf ∈ TB := tb_at 363 (by decide +kernel) (by decide +kernel)
theorem q365 : Cond.instanceMethod yX6_newsOf ∈ TB := tb_at 365 (by decide +kernel) (by decide +kernel)
theorem q366 : Cond.code yX6_newsOf cX6_newsOf 7 (some .int) ∈ TB := tb_at 366 (by decide +kernel) (by decide +kernel)
theorem q367 : Cond.methodLink RX6 128 yX5_isTold ∈ TB := tb_at 367 (by decide +kernel) (by decide +kernel)
theorem q368 : Cond.instanceMethod yX5_isTold ∈ TB := tb_at 368 (by decide +kernel) (by decide +kernel)
theorem q369 : Cond.selects RX5 yX5_isTold yX5_isTold ∈ TB := tb_at 369 (by decide +kernel) (by decide +kernel)
theorem q370 : Cond.code yX5_isTold cX5_isTold 2 none ∈ TB := tb_at 370 (by decide +kernel) (by decide +kernel)
theorem q371 : Cond.methodLink RL 23 yX6_tell ∈ TB := tb_at 371 (by decide +kernel) (by decide +kernel)
theorem q372 : Cond.instanceMethod yX6_tell ∈ TB := tb_at 372 (by decide +kernel) (by decide +kernel)
theorem q373 : Cond.selects RX6 yX6_tell yX6_tell ∈ TB := tb_at 373 (by decide +kernel) (by decide +kernel)
theorem q374 : Cond.code yX6_tell cX6_tell 2 (some .int) ∈ TB := tb_at 374 (by decide +kernel) (by decide +kernel)
theorem q375 : Cond.methodLink RX6 131 yX5_withinBits ∈ TB := tb_at 375 (by decide +kernel) (by decide +kernel)
theorem q376 : Cond.instanceMethod yX5_withinBits ∈ TB := tb_at 376 (by decide +kernel) (by decide +kernel)
theorem q377 : Cond.selects RX5 yX5_withinBits yX5_withinBits ∈ TB := tb_at 377 (by decide +kernel) (by decide +kernel)
theorem q378 : Cond.code yX5_withinBits cX5_withinBits 3 (some .int) ∈ TB := tb_at 378 (by decide +kernel) (by decide +kernel)
theorem q379 : Cond.methodLink RX6 135 yJ6_bitCount_0f7a4 ∈ TB := tb_at 379 (by decide +kernel) (by decide +kernel)
theorem q380 : Cond.static yJ6_bitCount_0f7a4 ∈ TB := tb_at 380 (by decide +kernel) (by decide +kernel)
theorem q381 : Cond.code yJ6_bitCount_0f7a4 cJ6_bitCount_0f7a4 1 (some .int) ∈ TB := tb_at 381 (by decide +kernel) (by decide +kernel)
theorem q382 : Cond.constant RJ6 265 (1431655765) ∈ TB := tb_at 382 (by decide +kernel) (by decide +kernel)
theorem q383 : Cond.constant RJ6 266 (858993459) ∈ TB := tb_at 383 (by decide +kernel) (by decide +kernel)
theorem q384 : Cond.constant RJ6 267 (252645135) ∈ TB := tb_at 384 (by decide +kernel) (by decide +kernel)
theorem q385 : Cond.methodLink RL 28 yX6_weigh ∈ TB := tb_at 385 (by decide +kernel) (by decide +kernel)
theorem q386 : Cond.instanceMethod yX6_weigh ∈ TB := tb_at 386 (by decide +kernel) (by decide +kernel)
theorem q387 : Cond.selects RX6 yX6_weigh yX6_weigh ∈ TB := tb_at 387 (by decide +kernel) (by decide +kernel)
theorem q388 : Cond.code yX6_weigh cX6_weigh 4 (some .int) ∈ TB := tb_at 388 (by decide +kernel) (by decide +kernel)
theorem q389 : Cond.methodLink RL 32 yX6_put ∈ TB := tb_at 389 (by decide +kernel) (by decide +kernel)
theorem q390 : Cond.instanceMethod yX6_put ∈ TB := tb_at 390 (by decide +kernel) (by decide +kernel)
theorem q391 : Cond.selects RX6 yX6_put yX6_put ∈ TB := tb_at 391 (by decide +kernel) (by decide +kernel)
theorem q392 : Cond.code yX6_put cX6_put 5 (some .int) ∈ TB := tb_at 392 (by decide +kernel) (by decide +kernel)
theorem q393 : Cond.methodLink RX6 138 yX6_isPlace ∈ TB := tb_at 393 (by decide +kernel) (by decide +kernel)
theorem q394 : Cond.static yX6_isPlace ∈ TB := tb_at 394 (by decide +kernel) (by decide +kernel)
theorem q395 : Cond.code yX6_isPlace cX6_isPlace 1 (some .boolean) ∈ TB := tb_at 395 (by decide +kernel) (by decide +kernel)
theorem q396 : Cond.methodLink RL 36 yX6_sea ∈ TB := tb_at 396 (by decide +kernel) (by decide +kernel)
theorem q397 : Cond.instanceMethod yX6_sea ∈ TB := tb_at 397 (by decide +kernel) (by decide +kernel)
theorem q398 : Cond.selects RX6 yX6_sea yX6_sea ∈ TB := tb_at 398 (by decide +kernel) (by decide +kernel)
theorem q399 : Cond.code yX6_sea cX6_sea 5 (some .int) ∈ TB := tb_at 399 (by decide +kernel) (by decide +kernel)
theorem q400 : Cond.methodLink RL 40 yX6_row ∈ TB := tb_at 400 (by decide +kernel) (by decide +kernel)
theorem q401 : Cond.instanceMethod yX6_row ∈ TB := tb_at 401 (by decide +kernel) (by decide +kernel)
theorem q402 : Cond.selects RX6 yX6_row yX6_row ∈ TB := tb_at 402 (by decide +kernel) (by decide +kernel)
theorem q403 : Cond.code yX6_row cX6_row 5 (some .int) ∈ TB := tb_at 403 (by decide +kernel) (by decide +kernel)
theorem q404 : Cond.methodLink RL 44 yX6_feed ∈ TB := tb_at 404 (by decide +kernel) (by decide +kernel)
theorem q405 : Cond.instanceMethod yX6_feed ∈ TB := tb_at 405 (by decide +kernel) (by decide +kernel)
theorem q406 : Cond.selects RX6 yX6_feed yX6_feed ∈ TB := tb_at 406 (by decide +kernel) (by decide +kernel)
theorem q407 : Cond.code yX6_feed cX6_feed 2 (some .int) ∈ TB := tb_at 407 (by decide +kernel) (by decide +kernel)
theorem q408 : Cond.methodLink RX6 153 yX0_takes ∈ TB := tb_at 408 (by decide +kernel) (by decide +kernel)
theorem q409 : Cond.instanceMethod yX0_takes ∈ TB := tb_at 409 (by decide +kernel) (by decide +kernel)
theorem q410 : Cond.selects RX0 yX0_takes yX0_takes ∈ TB := tb_at 410 (by decide +kernel) (by decide +kernel)
theorem q411 : Cond.code yX0_takes cX0_takes 2 (some .int) ∈ TB := tb_at 411 (by decide +kernel) (by decide +kernel)
theorem q412 : Cond.methodLink RL 48 yX6_chart ∈ TB := tb_at 412 (by decide +kernel) (by decide +kernel)
theorem q413 : Cond.instanceMethod yX6_chart ∈ TB := tb_at 413 (by decide +kernel) (by decide +kernel)
theorem q414 : Cond.selects RX6 yX6_chart yX6_chart ∈ TB := tb_at 414 (by decide +kernel) (by decide +kernel)
theorem q415 : Cond.code yX6_chart cX6_chart 2 (some .int) ∈ TB := tb_at 415 (by decide +kernel) (by decide +kernel)
theorem q416 : Cond.methodLink RX6 156 yX0_readsSea ∈ TB := tb_at 416 (by decide +kernel) (by decide +kernel)
theorem q417 : Cond.instanceMethod yX0_readsSea ∈ TB := tb_at 417 (by decide +kernel) (by decide +kernel)
theorem q418 : Cond.selects RX0 yX0_readsSea yX0_readsSea ∈ TB := tb_at 418 (by decide +kernel) (by decide +kernel)
theorem q419 : Cond.code yX0_readsSea cX0_readsSea 2 (some (.object "AmberGrains$Sea")) ∈ TB := tb_at 419 (by decide +kernel) (by decide +kernel)
theorem q420 : Cond.methodLink RX0 36 yX0_clause ∈ TB := tb_at 420 (by decide +kernel) (by decide +kernel)
theorem q422 : Cond.instanceMethod yX0_clause ∈ TB := tb_at 422 (by decide +kernel) (by decide +kernel)
theorem q423 : Cond.code yX0_clause cX0_clause 3 none ∈ TB := tb_at 423 (by decide +kernel) (by decide +kernel)
theorem q424 : Cond.methodLink RX0 39 yX0_sign ∈ TB := tb_at 424 (by decide +kernel) (by decide +kernel)
theorem q426 : Cond.instanceMethod yX0_sign ∈ TB := tb_at 426 (by decide +kernel) (by decide +kernel)
theorem q427 : Cond.code yX0_sign cX0_sign 1 (some .int) ∈ TB := tb_at 427 (by decide +kernel) (by decide +kernel)
theorem q429 : Cond.methodLink RX0 56 yX0_letters ∈ TB := tb_at 429 (by decide +kernel) (by decide +kernel)
theorem q431 : Cond.instanceMethod yX0_letters ∈ TB := tb_at 431 (by decide +kernel) (by decide +kernel)
theorem q432 : Cond.code yX0_letters cX0_letters 3 none ∈ TB := tb_at 432 (by decide +kernel) (by decide +kernel)
theorem q433 : Cond.methodLink RX0 93 yJ0_length_8abf5 ∈ TB := tb_at 433 (by decide +kernel) (by decide +kernel)
theorem q434 : Cond.methodLink RX0 95 yJ0_charAt_5068e ∈ TB := tb_at 434 (by decide +kernel) (by decide +kernel)
theorem q435 : Cond.instanceMethod yJ0_charAt_5068e ∈ TB := tb_at 435 (by decide +kernel) (by decide +kernel)
theorem q436 : Cond.selects RJ0 yJ0_charAt_5068e yJ0_charAt_5068e ∈ TB := tb_at 436 (by decide +kernel) (by decide +kernel)
theorem q437 : Cond.code yJ0_charAt_5068e cJ0_charAt_5068e 2 (some .char) ∈ TB := tb_at 437 (by decide +kernel) (by decide +kernel)
theorem q438 : Cond.methodLink RJ0 492 yJ0_isLatin1_aae02 ∈ TB := tb_at 438 (by decide +kernel) (by decide +kernel)
theorem q439 : Cond.instanceMethod yJ0_isLatin1_aae02 ∈ TB := tb_at 439 (by decide +kernel) (by decide +kernel)
theorem q440 : Cond.selects RJ0 yJ0_isLatin1_aae02 yJ0_isLatin1_aae02 ∈ TB := tb_at 440 (by decide +kernel) (by decide +kernel)
theorem q441 : Cond.code yJ0_isLatin1_aae02 cJ0_isLatin1_aae02 1 (some .boolean) ∈ TB := tb_at 441 (by decide +kernel) (by decide +kernel)
theorem q442 : Cond.methodLink RJ0 495 yJ1_charAt_3b067 ∈ TB := tb_at 442 (by decide +kernel) (by decide +kernel)
theorem q443 : Cond.static yJ1_charAt_3b067 ∈ TB := tb_at 443 (by decide +kernel) (by decide +kernel)
theorem q444 : Cond.code yJ1_charAt_3b067 cJ1_charAt_3b067 2 (some .char) ∈ TB := tb_at 444 (by decide +kernel) (by decide +kernel)
theorem q445 : Cond.methodLink RJ1 9 yJ0_checkIndex_df160 ∈ TB := tb_at 445 (by decide +kernel) (by decide +kernel)
theorem q446 : Cond.static yJ0_checkIndex_df160 ∈ TB := tb_at 446 (by decide +kernel) (by decide +kernel)
theorem q447 : Cond.code yJ0_checkIndex_df160 cJ0_checkIndex_df160 2 none ∈ TB := tb_at 447 (by decide +kernel) (by decide +kernel)
theorem q448 : Cond.fieldLink RJ0 1053 "jdk/internal/util/Preconditions" "SIOOBE_FORMATTER" "Ljava/util/function/BiFunction;" ∈ TB := tb_at 448 (by decide +kernel) (by decide +kernel)
theorem q450 : Cond.methodLink RJ0 1059 yJ3_checkIndex_8e157 ∈ TB := tb_at 450 (by decide +kernel) (by decide +kernel)
theorem q451 : Cond.static yJ3_checkIndex_8e157 ∈ TB := tb_at 451 (by decide +kernel) (by decide +kernel)
theorem q452 : Cond.code yJ3_checkIndex_8e157 cJ3_checkIndex_8e157 3 (some .int) ∈ TB := tb_at 452 (by decide +kernel) (by decide +kernel)
theorem q453 : Cond.methodLink RJ0 498 yJ2_charAt_3b067 ∈ TB := tb_at 453 (by decide +kernel) (by decide +kernel)
theorem q454 : Cond.static yJ2_charAt_3b067 ∈ TB := tb_at 454 (by decide +kernel) (by decide +kernel)
theorem q455 : Cond.code yJ2_charAt_3b067 cJ2_charAt_3b067 2 (some .char) ∈ TB := tb_at 455 (by decide +kernel) (by decide +kernel)
theorem q456 : Cond.methodLink RJ2 67 yJ2_checkIndex_2214a ∈ TB := tb_at 456 (by decide +kernel) (by decide +kernel)
theorem q457 : Cond.static yJ2_checkIndex_2214a ∈ TB := tb_at 457 (by decide +kernel) (by decide +kernel)
theorem q458 : Cond.code yJ2_checkIndex_2214a cJ2_checkIndex_2214a 2 none ∈ TB := tb_at 458 (by decide +kernel) (by decide +kernel)
theorem q459 : Cond.methodLink RJ2 48 yJ2_length_9d52b ∈ TB := tb_at 459 (by decide +kernel) (by decide +kernel)
theorem q460 : Cond.static yJ2_length_9d52b ∈ TB := tb_at 460 (by decide +kernel) (by decide +kernel)
theorem q461 : Cond.code yJ2_length_9d52b cJ2_length_9d52b 1 (some .int) ∈ TB := tb_at 461 (by decide +kernel) (by decide +kernel)
theorem q462 : Cond.methodLink RJ2 414 yJ0_checkIndex_df160 ∈ TB := tb_at 462 (by decide +kernel) (by decide +kernel)
theorem q463 : Cond.methodLink RJ2 71 yJ2_getChar_3b067 ∈ TB := tb_at 463 (by decide +kernel) (by decide +kernel)
theorem q464 : Cond.static yJ2_getChar_3b067 ∈ TB := tb_at 464 (by decide +kernel) (by decide +kernel)
theorem q465 : Cond.code yJ2_getChar_3b067 cJ2_getChar_3b067 2 (some .char) ∈ TB := tb_at 465 (by decide +kernel) (by decide +kernel)
theorem q466 : Cond.fieldLink RJ2 44 "java/lang/StringUTF16" "$assertionsDisabled" "Z" ∈ TB := tb_at 466 (by decide +kernel) (by decide +kernel)
theorem q468 : Cond.fieldLink RJ2 59 "java/lang/StringUTF16" "HI_BYTE_SHIFT" "I" ∈ TB := tb_at 468 (by decide +kernel) (by decide +kernel)
theorem q470 : Cond.fieldLink RJ2 63 "java/lang/StringUTF16" "LO_BYTE_SHIFT" "I" ∈ TB := tb_at 470 (by decide +kernel) (by decide +kernel)
theorem q472 : Cond.methodLink RX0 60 yX0_number ∈ TB := tb_at 472 (by decide +kernel) (by decide +kernel)
theorem q474 : Cond.instanceMethod yX0_number ∈ TB := tb_at 474 (by decide +kernel) (by decide +kernel)
theorem q475 : Cond.code yX0_number cX0_number 3 (some .int) ∈ TB := tb_at 475 (by decide +kernel) (by decide +kernel)
theorem q479 : Cond.methodLink RX0 69 yX0_either ∈ TB := tb_at 479 (by decide +kernel) (by decide +kernel)
theorem q481 : Cond.instanceMethod yX0_either ∈ TB := tb_at 481 (by decide +kernel) (by decide +kernel)
theorem q482 : Cond.code yX0_either cX0_either 5 none ∈ TB := tb_at 482 (by decide +kernel) (by decide +kernel)
theorem q483 : Cond.methodLink RX0 77 yX0_single ∈ TB := tb_at 483 (by decide +kernel) (by decide +kernel)
theorem q485 : Cond.instanceMethod yX0_single ∈ TB := tb_at 485 (by decide +kernel) (by decide +kernel)
theorem q486 : Cond.code yX0_single cX0_single 5 none ∈ TB := tb_at 486 (by decide +kernel) (by decide +kernel)
theorem q488 : Cond.methodLink RX0 82 yX0_test ∈ TB := tb_at 488 (by decide +kernel) (by decide +kernel)
theorem q490 : Cond.instanceMethod yX0_test ∈ TB := tb_at 490 (by decide +kernel) (by decide +kernel)
theorem q491 : Cond.code yX0_test cX0_test 3 none ∈ TB := tb_at 491 (by decide +kernel) (by decide +kernel)
theorem q493 : Cond.methodLink RX0 87 yJ0_indexOf_0f7a4 ∈ TB := tb_at 493 (by decide +kernel) (by decide +kernel)
theorem q494 : Cond.instanceMethod yJ0_indexOf_0f7a4 ∈ TB := tb_at 494 (by decide +kernel) (by decide +kernel)
theorem q495 : Cond.selects RJ0 yJ0_indexOf_0f7a4 yJ0_indexOf_0f7a4 ∈ TB := tb_at 495 (by decide +kernel) (by decide +kernel)
theorem q496 : Cond.code yJ0_indexOf_0f7a4 cJ0_indexOf_0f7a4 2 (some .int) ∈ TB := tb_at 496 (by decide +kernel) (by decide +kernel)
theorem q497 : Cond.methodLink RJ0 633 yJ0_indexOf_7cf53 ∈ TB := tb_at 497 (by decide +kernel) (by decide +kernel)
theorem q498 : Cond.instanceMethod yJ0_indexOf_7cf53 ∈ TB := tb_at 498 (by decide +kernel) (by decide +kernel)
theorem q499 : Cond.selects RJ0 yJ0_indexOf_7cf53 yJ0_indexOf_7cf53 ∈ TB := tb_at 499 (by decide +kernel) (by decide +kernel)
theorem q500 : Cond.code yJ0_indexOf_7cf53 cJ0_indexOf_7cf53 3 (some .int) ∈ TB := tb_at 500 (by decide +kernel) (by decide +kernel)
theorem q501 : Cond.methodLink RJ0 505 yJ0_length_8abf5 ∈ TB := tb_at 501 (by decide +kernel) (by decide +kernel)
theorem q502 : Cond.methodLink RJ0 637 yJ1_indexOf_4cfef ∈ TB := tb_at 502 (by decide +kernel) (by decide +kernel)
theorem q503 : Cond.static yJ1_indexOf_4cfef ∈ TB := tb_at 503 (by decide +kernel) (by decide +kernel)
theorem q504 : Cond.code yJ1_indexOf_4cfef cJ1_indexOf_4cfef 4 (some .int) ∈ TB := tb_at 504 (by decide +kernel) (by decide +kernel)
theorem q505 : Cond.methodLink RJ1 88 yJ1_canEncode_9a6ad ∈ TB := tb_at 505 (by decide +kernel) (by decide +kernel)
theorem q506 : Cond.static yJ1_canEncode_9a6ad ∈ TB := tb_at 506 (by decide +kernel) (by decide +kernel)
theorem q507 : Cond.code yJ1_canEncode_9a6ad cJ1_canEncode_9a6ad 1 (some .boolean) ∈ TB := tb_at 507 (by decide +kernel) (by decide +kernel)
theorem q508 : Cond.methodLink "java/lang/StringLatin1" 92 Lib.Math.max.name ∈ TB := tb_at 508 (by decide +kernel) (by decide +kernel)
theorem q509 : Cond.static Lib.Math.max.name ∈ TB := tb_at 509 (by decide +kernel) (by decide +kernel)
theorem q510 : Cond.code Lib.Math.max.name Lib.Math.max.code 2 (some .int) ∈ TB := tb_at 510 (by decide +kernel) (by decide +kernel)
theorem q511 : Cond.methodLink "java/lang/StringLatin1" 38 Lib.Math.min.name ∈ TB := tb_at 511 (by decide +kernel) (by decide +kernel)
theorem q512 : Cond.methodLink RJ1 95 yJ1_indexOfChar_4cfef ∈ TB := tb_at 512 (by decide +kernel) (by decide +kernel)
theorem q513 : Cond.static yJ1_indexOfChar_4cfef ∈ TB := tb_at 513 (by decide +kernel) (by decide +kernel)
theorem q514 : Cond.code yJ1_indexOfChar_4cfef cJ1_indexOfChar_4cfef 6 (some .int) ∈ TB := tb_at 514 (by decide +kernel) (by decide +kernel)
theorem q515 : Cond.methodLink RJ0 640 yJ2_indexOf_4cfef ∈ TB := tb_at 515 (by decide +kernel) (by decide +kernel)
theorem q516 : Cond.static yJ2_indexOf_4cfef ∈ TB := tb_at 516 (by decide +kernel) (by decide +kernel)
theorem q517 : Cond.code yJ2_indexOf_4cfef cJ2_indexOf_4cfef 4 (some .int) ∈ TB := tb_at 517 (by decide +kernel) (by decide +kernel)
theorem q518 : Cond.methodLink "java/lang/StringUTF16" 224 Lib.Math.max.name ∈ TB := tb_at 518 (by decide +kernel) (by decide +kernel)
theorem q519 : Cond.methodLink "java/lang/StringUTF16" 183 Lib.Math.min.name ∈ TB := tb_at 519 (by decide +kernel) (by decide +kernel)
theorem q520 : Cond.constant RJ2 227 (65536) ∈ TB := tb_at 520 (by decide +kernel) (by decide +kernel)
theorem q521 : Cond.methodLink RJ2 228 yJ2_indexOfChar_4cfef ∈ TB := tb_at 521 (by decide +kernel) (by decide +kernel)
theorem q522 : Cond.static yJ2_indexOfChar_4cfef ∈ TB := tb_at 522 (by decide +kernel) (by decide +kernel)
theorem q523 : Cond.code yJ2_indexOfChar_4cfef cJ2_indexOfChar_4cfef 4 (some .int) ∈ TB := tb_at 523 (by decide +kernel) (by decide +kernel)
theorem q524 : Cond.methodLink RJ2 96 yJ2_checkBoundsBeginEnd_d044e ∈ TB := tb_at 524 (by decide +kernel) (by decide +kernel)
theorem q525 : Cond.static yJ2_checkBoundsBeginEnd_d044e ∈ TB := tb_at 525 (by decide +kernel) (by decide +kernel)
theorem q526 : Cond.code yJ2_checkBoundsBeginEnd_d044e cJ2_checkBoundsBeginEnd_d044e 3 none ∈ TB := tb_at 526 (by decide +kernel) (by decide +kernel)
theorem q527 : Cond.methodLink RJ2 241 yJ0_checkBoundsBeginEnd_23922 ∈ TB := tb_at 527 (by decide +kernel) (by decide +kernel)
theorem q528 : Cond.static yJ0_checkBoundsBeginEnd_23922 ∈ TB := tb_at 528 (by decide +kernel) (by decide +kernel)
theorem q529 : Cond.code yJ0_checkBoundsBeginEnd_23922 cJ0_checkBoundsBeginEnd_23922 3 none ∈ TB := tb_at 529 (by decide +kernel) (by decide +kernel)
theorem q530 : Cond.methodLink RJ0 1062 yJ3_checkFromToIndex_8c36e ∈ TB := tb_at 530 (by decide +kernel) (by decide +kernel)
theorem q531 : Cond.static yJ3_checkFromToIndex_8c36e ∈ TB := tb_at 531 (by decide +kernel) (by decide +kernel)
theorem q532 : Cond.code yJ3_checkFromToIndex_8c36e cJ3_checkFromToIndex_8c36e 4 (some .int) ∈ TB := tb_at 532 (by decide +kernel) (by decide +kernel)
theorem q533 : Cond.methodLink RJ2 244 yJ2_indexOfCharUnsafe_4cfef ∈ TB := tb_at 533 (by decide +kernel) (by decide +kernel)
theorem q534 : Cond.static yJ2_indexOfCharUnsafe_4cfef ∈ TB := tb_at 534 (by decide +kernel) (by decide +kernel)
theorem q535 : Cond.code yJ2_indexOfCharUnsafe_4cfef cJ2_indexOfCharUnsafe_4cfef 5 (some .int) ∈ TB := tb_at 535 (by decide +kernel) (by decide +kernel)
theorem q536 : Cond.methodLink RJ2 232 yJ2_indexOfSupplementary_4cfef ∈ TB := tb_at 536 (by decide +kernel) (by decide +kernel)
theorem q537 : Cond.static yJ2_indexOfSupplementary_4cfef ∈ TB := tb_at 537 (by decide +kernel) (by decide +kernel)
theorem q538 : Cond.code yJ2_indexOfSupplementary_4cfef cJ2_indexOfSupplementary_4cfef 7 (some .int) ∈ TB := tb_at 538 (by decide +kernel) (by decide +kernel)
theorem q539 : Cond.methodLink RJ2 164 yJ11_isValidCodePoint_9a6ad ∈ TB := tb_at 539 (by decide +kernel) (by decide +kernel)
theorem q540 : Cond.static yJ11_isValidCodePoint_9a6ad ∈ TB := tb_at 540 (by decide +kernel) (by decide +kernel)
theorem q541 : Cond.code yJ11_isValidCodePoint_9a6ad cJ11_isValidCodePoint_9a6ad 2 (some .boolean) ∈ TB := tb_at 541 (by decide +kernel) (by decide +kernel)
theorem q542 : Cond.methodLink RJ2 157 yJ11_highSurrogate_5068e ∈ TB := tb_at 542 (by decide +kernel) (by decide +kernel)
theorem q543 : Cond.static yJ11_highSurrogate_5068e ∈ TB := tb_at 543 (by decide +kernel) (by decide +kernel)
theorem q544 : Cond.code yJ11_highSurrogate_5068e cJ11_highSurrogate_5068e 1 (some .char) ∈ TB := tb_at 544 (by decide +kernel) (by decide +kernel)
theorem q545 : Cond.constant RJ11 110 (55232) ∈ TB := tb_at 545 (by decide +kernel) (by decide +kernel)
theorem q546 : Cond.methodLink RJ2 161 yJ11_lowSurrogate_5068e ∈ TB := tb_at 546 (by decide +kernel) (by decide +kernel)
theorem q547 : Cond.static yJ11_lowSurrogate_5068e ∈ TB := tb_at 547 (by decide +kernel) (by decide +kernel)
theorem q548 : Cond.code yJ11_lowSurrogate_5068e cJ11_lowSurrogate_5068e 1 (some .char) ∈ TB := tb_at 548 (by decide +kernel) (by decide +kernel)
theorem q549 : Cond.constant RJ11 76 (56320) ∈ TB := tb_at 549 (by decide +kernel) (by decide +kernel)
theorem q550 : Cond.methodLink RX0 73 yX0_step ∈ TB := tb_at 550 (by decide +kernel) (by decide +kernel)
theorem q552 : Cond.instanceMethod yX0_step ∈ TB := tb_at 552 (by decide +kernel) (by decide +kernel)
theorem q553 : Cond.code yX0_step cX0_step 4 none ∈ TB := tb_at 553 (by decide +kernel) (by decide +kernel)
theorem q554 : Cond.methodLink RX0 99 yX2_step ∈ TB := tb_at 554 (by decide +kernel) (by decide +kernel)
theorem q555 : Cond.static yX2_step ∈ TB := tb_at 555 (by decide +kernel) (by decide +kernel)
theorem q556 : Cond.code yX2_step cX2_step 3 (some .int) ∈ TB := tb_at 556 (by decide +kernel) (by decide +kernel)
theorem q557 : Cond.classLink RX0 43 RX2 ∈ TB := tb_at 557 (by decide +kernel) (by decide +kernel)
theorem q558 : Cond.instantiable RX2 2 ∈ TB := tb_at 558 (by decide +kernel) (by decide +kernel)
theorem q559 : Cond.methodLink RX0 45 yJ7_copyOf_59c91 ∈ TB := tb_at 559 (by decide +kernel) (by decide +kernel)
theorem q560 : Cond.static yJ7_copyOf_59c91 ∈ TB := tb_at 560 (by decide +kernel) (by decide +kernel)
theorem q561 : Cond.code yJ7_copyOf_59c91 cJ7_copyOf_59c91 3 (some (.array .int)) ∈ TB := tb_at 561 (by decide +kernel) (by decide +kernel)
theorem q562 : Cond.methodLink RJ7 316 ⟨"[I", "clone", "()Ljava/lang/Object;"⟩ ∈ TB := tb_at 562 (by decide +kernel) (by decide +kernel)
theorem q564 : Cond.native ⟨"java/lang/Object", "clone", "()Ljava/lang/Object;"⟩ ∈ TB := tb_at 564 (by decide +kernel) (by decide +kernel)
theorem q565 : Cond.instanceMethod ⟨"java/lang/Object", "clone", "()Ljava/lang/Object;"⟩ ∈ TB := tb_at 565 (by decide +kernel) (by decide +kernel)
theorem q566 : Cond.selects "[I" ⟨"[I", "clone", "()Ljava/lang/Object;"⟩ ⟨"java/lang/Object", "clone", "()Ljava/lang/Object;"⟩ ∈ TB := tb_at 566 (by decide +kernel) (by decide +kernel)
theorem q568 : Cond.classLink RJ7 317 "[I" ∈ TB := tb_at 568 (by decide +kernel) (by decide +kernel)
theorem q569 : Cond.methodLink "java/util/Arrays" 304 Lib.Math.min.name ∈ TB := tb_at 569 (by decide +kernel) (by decide +kernel)
theorem q570 : Cond.methodLink "java/util/Arrays" 150 arraycopyName ∈ TB := tb_at 570 (by decide +kernel) (by decide +kernel)
theorem q571 : Cond.methodLink RX0 51 yX2_init ∈ TB := tb_at 571 (by decide +kernel) (by decide +kernel)
theorem q572 : Cond.instanceMethod yX2_init ∈ TB := tb_at 572 (by decide +kernel) (by decide +kernel)
theorem q573 : Cond.code yX2_init cX2_init 3 none ∈ TB := tb_at 573 (by decide +kernel) (by decide +kernel)
theorem q574 : Cond.methodLink "AmberGrains$Sea" 1 objectInit ∈ TB := tb_at 574 (by decide +kernel) (by decide +kernel)
theorem q575 : Cond.fieldLink RX2 7 "AmberGrains$Sea" "steps" "[I" ∈ TB := tb_at 575 (by decide +kernel) (by decide +kernel)
theorem q576 : Cond.fieldLink RX2 13 "AmberGrains$Sea" "room" "I" ∈ TB := tb_at 576 (by decide +kernel) (by decide +kernel)
theorem q577 : Cond.fieldLink RX5 75 "AmberGrains$Sea" "room" "I" ∈ TB := tb_at 577 (by decide +kernel) (by decide +kernel)
theorem q583 : Cond.methodLink RX6 160 yX0_fault ∈ TB := tb_at 583 (by decide +kernel) (by decide +kernel)
theorem q584 : Cond.instanceMethod yX0_fault ∈ TB := tb_at 584 (by decide +kernel) (by decide +kernel)
theorem q585 : Cond.selects RX0 yX0_fault yX0_fault ∈ TB := tb_at 585 (by decide +kernel) (by decide +kernel)
theorem q586 : Cond.code yX0_fault cX0_fault 1 (some .int) ∈ TB := tb_at 586 (by decide +kernel) (by decide +kernel)
theorem q587 : Cond.methodLink RL 53 yX6_told ∈ TB := tb_at 587 (by decide +kernel) (by decide +kernel)
theorem q588 : Cond.instanceMethod yX6_told ∈ TB := tb_at 588 (by decide +kernel) (by decide +kernel)
theorem q589 : Cond.selects RX6 yX6_told yX6_told ∈ TB := tb_at 589 (by decide +kernel) (by decide +kernel)
theorem q590 : Cond.code yX6_told cX6_told 2 (some .int) ∈ TB := tb_at 590 (by decide +kernel) (by decide +kernel)
theorem q591 : Cond.methodLink RX6 170 yX5_room ∈ TB := tb_at 591 (by decide +kernel) (by decide +kernel)
theorem q592 : Cond.methodLink RX6 173 yX5_howManyFound ∈ TB := tb_at 592 (by decide +kernel) (by decide +kernel)
theorem q593 : Cond.instanceMethod yX5_howManyFound ∈ TB := tb_at 593 (by decide +kernel) (by decide +kernel)
theorem q594 : Cond.selects RX5 yX5_howManyFound yX5_howManyFound ∈ TB := tb_at 594 (by decide +kernel) (by decide +kernel)
theorem q595 : Cond.code yX5_howManyFound cX5_howManyFound 3 (some .int) ∈ TB := tb_at 595 (by decide +kernel) (by decide +kernel)
theorem q596 : Cond.methodLink RX6 176 yX5_withinLoads ∈ TB := tb_at 596 (by decide +kernel) (by decide +kernel)
theorem q597 : Cond.instanceMethod yX5_withinLoads ∈ TB := tb_at 597 (by decide +kernel) (by decide +kernel)
theorem q598 : Cond.selects RX5 yX5_withinLoads yX5_withinLoads ∈ TB := tb_at 598 (by decide +kernel) (by decide +kernel)
theorem q599 : Cond.code yX5_withinLoads cX5_withinLoads 3 (some .int) ∈ TB := tb_at 599 (by decide +kernel) (by decide +kernel)
theorem q600 : Cond.methodLink RL 57 yX6_pass ∈ TB := tb_at 600 (by decide +kernel) (by decide +kernel)
theorem q601 : Cond.instanceMethod yX6_pass ∈ TB := tb_at 601 (by decide +kernel) (by decide +kernel)
theorem q602 : Cond.selects RX6 yX6_pass yX6_pass ∈ TB := tb_at 602 (by decide +kernel) (by decide +kernel)
theorem q603 : Cond.code yX6_pass cX6_pass 2 (some .int) ∈ TB := tb_at 603 (by decide +kernel) (by decide +kernel)
theorem q604 : Cond.methodLink RX6 179 yX5_daysGo ∈ TB := tb_at 604 (by decide +kernel) (by decide +kernel)
theorem q605 : Cond.instanceMethod yX5_daysGo ∈ TB := tb_at 605 (by decide +kernel) (by decide +kernel)
theorem q606 : Cond.selects RX5 yX5_daysGo yX5_daysGo ∈ TB := tb_at 606 (by decide +kernel) (by decide +kernel)
theorem q607 : Cond.code yX5_daysGo cX5_daysGo 3 none ∈ TB := tb_at 607 (by decide +kernel) (by decide +kernel)
theorem q608 : Cond.methodLink RX5 99 yX5_dayGoes ∈ TB := tb_at 608 (by decide +kernel) (by decide +kernel)
theorem q609 : Cond.methodLink RL 61 yX6_on ∈ TB := tb_at 609 (by decide +kernel) (by decide +kernel)
theorem q610 : Cond.instanceMethod yX6_on ∈ TB := tb_at 610 (by decide +kernel) (by decide +kernel)
theorem q611 : Cond.selects RX6 yX6_on yX6_on ∈ TB := tb_at 611 (by decide +kernel) (by decide +kernel)
theorem q612 : Cond.code yX6_on cX6_on 4 (some .int) ∈ TB := tb_at 612 (by decide +kernel) (by decide +kernel)
theorem q613 : Cond.methodLink RL 65 yX6_begin ∈ TB := tb_at 613 (by decide +kernel) (by decide +kernel)
theorem q614 : Cond.instanceMethod yX6_begin ∈ TB := tb_at 614 (by decide +kernel) (by decide +kernel)
theorem q615 : Cond.selects RX6 yX6_begin yX6_begin ∈ TB := tb_at 615 (by decide +kernel) (by decide +kernel)
theorem q616 : Cond.code yX6_begin cX6_begin 7 (some .int) ∈ TB := tb_at 616 (by decide +kernel) (by decide +kernel)
theorem q617 : Cond.methodLink RX6 182 yX6_trialFromFinderAt ∈ TB := tb_at 617 (by decide +kernel) (by decide +kernel)
theorem q619 : Cond.instanceMethod yX6_trialFromFinderAt ∈ TB := tb_at 619 (by decide +kernel) (by decide +kernel)
theorem q620 : Cond.code yX6_trialFromFinderAt cX6_trialFromFinderAt 3 none ∈ TB := tb_at 620 (by decide +kernel) (by decide +kernel)
theorem q621 : Cond.methodLink RL 69 yX6_see ∈ TB := tb_at 621 (by decide +kernel) (by decide +kernel)
theorem q622 : Cond.instanceMethod yX6_see ∈ TB := tb_at 622 (by decide +kernel) (by decide +kernel)
theorem q623 : Cond.selects RX6 yX6_see yX6_see ∈ TB := tb_at 623 (by decide +kernel) (by decide +kernel)
theorem q624 : Cond.code yX6_see cX6_see 4 (some .int) ∈ TB := tb_at 624 (by decide +kernel) (by decide +kernel)
theorem q625 : Cond.methodLink RX6 186 yX1_emptied ∈ TB := tb_at 625 (by decide +kernel) (by decide +kernel)
theorem q626 : Cond.instanceMethod yX1_emptied ∈ TB := tb_at 626 (by decide +kernel) (by decide +kernel)
theorem q627 : Cond.selects RX1 yX1_emptied yX1_emptied ∈ TB := tb_at 627 (by decide +kernel) (by decide +kernel)
theorem q628 : Cond.code yX1_emptied cX1_emptied 1 (some .int) ∈ TB := tb_at 628 (by decide +kernel) (by decide +kernel)
theorem q629 : Cond.methodLink RX6 189 yX1_takes ∈ TB := tb_at 629 (by decide +kernel) (by decide +kernel)
theorem q630 : Cond.instanceMethod yX1_takes ∈ TB := tb_at 630 (by decide +kernel) (by decide +kernel)
theorem q631 : Cond.selects RX1 yX1_takes yX1_takes ∈ TB := tb_at 631 (by decide +kernel) (by decide +kernel)
theorem q632 : Cond.code yX1_takes cX1_takes 4 (some .int) ∈ TB := tb_at 632 (by decide +kernel) (by decide +kernel)
theorem q633 : Cond.methodLink RL 73 yX6_weights ∈ TB := tb_at 633 (by decide +kernel) (by decide +kernel)
theorem q634 : Cond.instanceMethod yX6_weights ∈ TB := tb_at 634 (by decide +kernel) (by decide +kernel)
theorem q635 : Cond.selects RX6 yX6_weights yX6_weights ∈ TB := tb_at 635 (by decide +kernel) (by decide +kernel)
theorem q636 : Cond.code yX6_weights cX6_weights 4 (some .int) ∈ TB := tb_at 636 (by decide +kernel) (by decide +kernel)
theorem q637 : Cond.methodLink RX6 191 yX6_trialIsAsSeen ∈ TB := tb_at 637 (by decide +kernel) (by decide +kernel)
theorem q639 : Cond.instanceMethod yX6_trialIsAsSeen ∈ TB := tb_at 639 (by decide +kernel) (by decide +kernel)
theorem q640 : Cond.code yX6_trialIsAsSeen cX6_trialIsAsSeen 3 (some .boolean) ∈ TB := tb_at 640 (by decide +kernel) (by decide +kernel)
theorem q641 : Cond.methodLink RX6 204 yX1_cell ∈ TB := tb_at 641 (by decide +kernel) (by decide +kernel)
theorem q642 : Cond.instanceMethod yX1_cell ∈ TB := tb_at 642 (by decide +kernel) (by decide +kernel)
theorem q643 : Cond.selects RX1 yX1_cell yX1_cell ∈ TB := tb_at 643 (by decide +kernel) (by decide +kernel)
theorem q644 : Cond.code yX1_cell cX1_cell 3 (some .int) ∈ TB := tb_at 644 (by decide +kernel) (by decide +kernel)
theorem q645 : Cond.methodLink "AmberGrains" 265 Lib.Math.max.name ∈ TB := tb_at 645 (by decide +kernel) (by decide +kernel)
theorem q646 : Cond.methodLink RX6 270 yX6_trialIsAsSeenOn ∈ TB := tb_at 646 (by decide +kernel) (by decide +kernel)
theorem q648 : Cond.instanceMethod yX6_trialIsAsSeenOn ∈ TB := tb_at 648 (by decide +kernel) (by decide +kernel)
theorem q649 : Cond.code yX6_trialIsAsSeenOn cX6_trialIsAsSeenOn 4 (some .boolean) ∈ TB := tb_at 649 (by decide +kernel) (by decide +kernel)
theorem q650 : Cond.methodLink RL 77 yX6_can ∈ TB := tb_at 650 (by decide +kernel) (by decide +kernel)
theorem q651 : Cond.instanceMethod yX6_can ∈ TB := tb_at 651 (by decide +kernel) (by decide +kernel)
theorem q652 : Cond.selects RX6 yX6_can yX6_can ∈ TB := tb_at 652 (by decide +kernel) (by decide +kernel)
theorem q653 : Cond.code yX6_can cX6_can 6 (some .int) ∈ TB := tb_at 653 (by decide +kernel) (by decide +kernel)
theorem q654 : Cond.methodLink RL 81 yX6_odds ∈ TB := tb_at 654 (by decide +kernel) (by decide +kernel)
theorem q655 : Cond.instanceMethod yX6_odds ∈ TB := tb_at 655 (by decide +kernel) (by decide +kernel)
theorem q656 : Cond.selects RX6 yX6_odds yX6_odds ∈ TB := tb_at 656 (by decide +kernel) (by decide +kernel)
theorem q657 : Cond.code yX6_odds cX6_odds 6 (some .long) ∈ TB := tb_at 657 (by decide +kernel) (by decide +kernel)
theorem q658 : Cond.constantLong RX6 195 (-9223372036854775808) ∈ TB := tb_at 658 (by decide +kernel) (by decide +kernel)
theorem q659 : Cond.methodLink RX6 197 yX6_inLowestTerms ∈ TB := tb_at 659 (by decide +kernel) (by decide +kernel)
theorem q660 : Cond.static yX6_inLowestTerms ∈ TB := tb_at 660 (by decide +kernel) (by decide +kernel)
theorem q661 : Cond.code yX6_inLowestTerms cX6_inLowestTerms 5 (some .long) ∈ TB := tb_at 661 (by decide +kernel) (by decide +kernel)
theorem q662 : Cond.methodLink RL 86 yX6_mean ∈ TB := tb_at 662 (by decide +kernel) (by decide +kernel)
theorem q663 : Cond.instanceMethod yX6_mean ∈ TB := tb_at 663 (by decide +kernel) (by decide +kernel)
theorem q664 : Cond.selects RX6 yX6_mean yX6_mean ∈ TB := tb_at 664 (by decide +kernel) (by decide +kernel)
theorem q665 : Cond.code yX6_mean cX6_mean 3 (some .long) ∈ TB := tb_at 665 (by decide +kernel) (by decide +kernel)
theorem q666 : Cond.methodLink RL 91 yX6_plan ∈ TB := tb_at 666 (by decide +kernel) (by decide +kernel)
theorem q667 : Cond.instanceMethod yX6_plan ∈ TB := tb_at 667 (by decide +kernel) (by decide +kernel)
theorem q668 : Cond.selects RX6 yX6_plan yX6_plan ∈ TB := tb_at 668 (by decide +kernel) (by decide +kernel)
theorem q669 : Cond.code yX6_plan cX6_plan 4 (some .int) ∈ TB := tb_at 669 (by decide +kernel) (by decide +kernel)
theorem q670 : Cond.methodLink RL 95 yX6_ends ∈ TB := tb_at 670 (by decide +kernel) (by decide +kernel)
theorem q671 : Cond.instanceMethod yX6_ends ∈ TB := tb_at 671 (by decide +kernel) (by decide +kernel)
theorem q672 : Cond.selects RX6 yX6_ends yX6_ends ∈ TB := tb_at 672 (by decide +kernel) (by decide +kernel)
theorem q673 : Cond.code yX6_ends cX6_ends 3 (some .int) ∈ TB := tb_at 673 (by decide +kernel) (by decide +kernel)
theorem q674 : Cond.methodLink RX6 207 yX6_trialDoes ∈ TB := tb_at 674 (by decide +kernel) (by decide +kernel)
theorem q676 : Cond.instanceMethod yX6_trialDoes ∈ TB := tb_at 676 (by decide +kernel) (by decide +kernel)
theorem q677 : Cond.code yX6_trialDoes cX6_trialDoes 3 none ∈ TB := tb_at 677 (by decide +kernel) (by decide +kernel)
theorem q678 : Cond.methodLink RX6 273 yX5_isSilent ∈ TB := tb_at 678 (by decide +kernel) (by decide +kernel)
theorem q679 : Cond.instanceMethod yX5_isSilent ∈ TB := tb_at 679 (by decide +kernel) (by decide +kernel)
theorem q680 : Cond.selects RX5 yX5_isSilent yX5_isSilent ∈ TB := tb_at 680 (by decide +kernel) (by decide +kernel)
theorem q681 : Cond.code yX5_isSilent cX5_isSilent 2 none ∈ TB := tb_at 681 (by decide +kernel) (by decide +kernel)
theorem q682 : Cond.methodLink RL 99 yX6_book ∈ TB := tb_at 682 (by decide +kernel) (by decide +kernel)
theorem q683 : Cond.instanceMethod yX6_book ∈ TB := tb_at 683 (by decide +kernel) (by decide +kernel)
theorem q684 : Cond.selects RX6 yX6_book yX6_book ∈ TB := tb_at 684 (by decide +kernel) (by decide +kernel)
theorem q685 : Cond.code yX6_book cX6_book 3 (some .int) ∈ TB := tb_at 685 (by decide +kernel) (by decide +kernel)
theorem q686 : Cond.methodLink RL 103 yX6_looked ∈ TB := tb_at 686 (by decide +kernel) (by decide +kernel)
theorem q687 : Cond.instanceMethod yX6_looked ∈ TB := tb_at 687 (by decide +kernel) (by decide +kernel)
theorem q688 : Cond.selects RX6 yX6_looked yX6_looked ∈ TB := tb_at 688 (by decide +kernel) (by decide +kernel)
theorem q689 : Cond.code yX6_looked cX6_looked 3 (some .int) ∈ TB := tb_at 689 (by decide +kernel) (by decide +kernel)
theorem q690 : Cond.methodLink RL 107 yX6_judge ∈ TB := tb_at 690 (by decide +kernel) (by decide +kernel)
theorem q691 : Cond.instanceMethod yX6_judge ∈ TB := tb_at 691 (by decide +kernel) (by decide +kernel)
theorem q692 : Cond.selects RX6 yX6_judge yX6_judge ∈ TB := tb_at 692 (by decide +kernel) (by decide +kernel)
theorem q693 : Cond.code yX6_judge cX6_judge 5 (some .int) ∈ TB := tb_at 693 (by decide +kernel) (by decide +kernel)
theorem q694 : Cond.methodLink RX6 210 yX6_isTape ∈ TB := tb_at 694 (by decide +kernel) (by decide +kernel)
theorem q695 : Cond.static yX6_isTape ∈ TB := tb_at 695 (by decide +kernel) (by decide +kernel)
theorem q696 : Cond.code yX6_isTape cX6_isTape 1 (some .boolean) ∈ TB := tb_at 696 (by decide +kernel) (by decide +kernel)
theorem q697 : Cond.methodLink RL 111 yX6_image ∈ TB := tb_at 697 (by decide +kernel) (by decide +kernel)
theorem q698 : Cond.instanceMethod yX6_image ∈ TB := tb_at 698 (by decide +kernel) (by decide +kernel)
theorem q699 : Cond.selects RX6 yX6_image yX6_image ∈ TB := tb_at 699 (by decide +kernel) (by decide +kernel)
theorem q700 : Cond.code yX6_image cX6_image 1 (some .int) ∈ TB := tb_at 700 (by decide +kernel) (by decide +kernel)
theorem q701 : Cond.methodLink RX6 221 yX1_becomes ∈ TB := tb_at 701 (by decide +kernel) (by decide +kernel)
theorem q702 : Cond.instanceMethod yX1_becomes ∈ TB := tb_at 702 (by decide +kernel) (by decide +kernel)
theorem q703 : Cond.selects RX1 yX1_becomes yX1_becomes ∈ TB := tb_at 703 (by decide +kernel) (by decide +kernel)
theorem q704 : Cond.code yX1_becomes cX1_becomes 2 none ∈ TB := tb_at 704 (by decide +kernel) (by decide +kernel)
theorem q705 : Cond.methodLink "AmberGrains$Rows" 22 Lib.Math.min.name ∈ TB := tb_at 705 (by decide +kernel) (by decide +kernel)
theorem q706 : Cond.methodLink "AmberGrains$Rows" 28 arraycopyName ∈ TB := tb_at 706 (by decide +kernel) (by decide +kernel)
theorem q707 : Cond.methodLink RL 115 yX6_undo ∈ TB := tb_at 707 (by decide +kernel) (by decide +kernel)
theorem q708 : Cond.instanceMethod yX6_undo ∈ TB := tb_at 708 (by decide +kernel) (by decide +kernel)
theorem q709 : Cond.selects RX6 yX6_undo yX6_undo ∈ TB := tb_at 709 (by decide +kernel) (by decide +kernel)
theorem q710 : Cond.code yX6_undo cX6_undo 1 (some .int) ∈ TB := tb_at 710 (by decide +kernel) (by decide +kernel)
theorem q711 : Cond.methodLink RL 119 yX6_act ∈ TB := tb_at 711 (by decide +kernel) (by decide +kernel)
theorem q712 : Cond.instanceMethod yX6_act ∈ TB := tb_at 712 (by decide +kernel) (by decide +kernel)
theorem q713 : Cond.selects RX6 yX6_act yX6_act ∈ TB := tb_at 713 (by decide +kernel) (by decide +kernel)
theorem q714 : Cond.code yX6_act cX6_act 4 (some .int) ∈ TB := tb_at 714 (by decide +kernel) (by decide +kernel)
theorem q715 : Cond.methodLink RX6 227 yX4_becomesThatOf ∈ TB := tb_at 715 (by decide +kernel) (by decide +kernel)
theorem q716 : Cond.instanceMethod yX4_becomesThatOf ∈ TB := tb_at 716 (by decide +kernel) (by decide +kernel)
theorem q717 : Cond.selects RX4 yX4_becomesThatOf yX4_becomesThatOf ∈ TB := tb_at 717 (by decide +kernel) (by decide +kernel)
theorem q718 : Cond.code yX4_becomesThatOf cX4_becomesThatOf 4 none ∈ TB := tb_at 718 (by decide +kernel) (by decide +kernel)
theorem q719 : Cond.methodLink RX6 231 yX4_does ∈ TB := tb_at 719 (by decide +kernel) (by decide +kernel)
theorem q720 : Cond.instanceMethod yX4_does ∈ TB := tb_at 720 (by decide +kernel) (by decide +kernel)
theorem q721 : Cond.selects RX4 yX4_does yX4_does ∈ TB := tb_at 721 (by decide +kernel) (by decide +kernel)
theorem q722 : Cond.code yX4_does cX4_does 3 (some .int) ∈ TB := tb_at 722 (by decide +kernel) (by decide +kernel)
theorem q723 : Cond.methodLink RX4 31 yX4_from ∈ TB := tb_at 723 (by decide +kernel) (by decide +kernel)
theorem q725 : Cond.instanceMethod yX4_from ∈ TB := tb_at 725 (by decide +kernel) (by decide +kernel)
theorem q726 : Cond.code yX4_from cX4_from 6 (some .int) ∈ TB := tb_at 726 (by decide +kernel) (by decide +kernel)
theorem q727 : Cond.fieldLink RX4 35 "AmberGrains$Voice" "BODIES" "[I" ∈ TB := tb_at 727 (by decide +kernel) (by decide +kernel)
theorem q729 : Cond.methodLink RX4 38 yX4_body ∈ TB := tb_at 729 (by decide +kernel) (by decide +kernel)
theorem q731 : Cond.instanceMethod yX4_body ∈ TB := tb_at 731 (by decide +kernel) (by decide +kernel)
theorem q732 : Cond.code yX4_body cX4_body 4 (some .int) ∈ TB := tb_at 732 (by decide +kernel) (by decide +kernel)
theorem q733 : Cond.methodLink RL 123 yX6_trace ∈ TB := tb_at 733 (by decide +kernel) (by decide +kernel)
theorem q734 : Cond.instanceMethod yX6_trace ∈ TB := tb_at 734 (by decide +kernel) (by decide +kernel)
theorem q735 : Cond.selects RX6 yX6_trace yX6_trace ∈ TB := tb_at 735 (by decide +kernel) (by decide +kernel)
theorem q736 : Cond.code yX6_trace cX6_trace 2 (some .int) ∈ TB := tb_at 736 (by decide +kernel) (by decide +kernel)
theorem q737 : Cond.methodLink RL 127 yX6_taken ∈ TB := tb_at 737 (by decide +kernel) (by decide +kernel)
theorem q738 : Cond.instanceMethod yX6_taken ∈ TB := tb_at 738 (by decide +kernel) (by decide +kernel)
theorem q739 : Cond.selects RX6 yX6_taken yX6_taken ∈ TB := tb_at 739 (by decide +kernel) (by decide +kernel)
theorem q740 : Cond.code yX6_taken cX6_taken 5 (some .int) ∈ TB := tb_at 740 (by decide +kernel) (by decide +kernel)
theorem q741 : Cond.methodLink RX6 237 yX4_kindAbove ∈ TB := tb_at 741 (by decide +kernel) (by decide +kernel)
theorem q742 : Cond.static yX4_kindAbove ∈ TB := tb_at 742 (by decide +kernel) (by decide +kernel)
theorem q743 : Cond.code yX4_kindAbove cX4_kindAbove 1 (some .int) ∈ TB := tb_at 743 (by decide +kernel) (by decide +kernel)
theorem q744 : Cond.fieldLink RX4 28 "AmberGrains$Voice" "ABOVE" "[I" ∈ TB := tb_at 744 (by decide +kernel) (by decide +kernel)
theorem q746 : Cond.methodLink RL 131 yX6_count ∈ TB := tb_at 746 (by decide +kernel) (by decide +kernel)
theorem q747 : Cond.instanceMethod yX6_count ∈ TB := tb_at 747 (by decide +kernel) (by decide +kernel)
theorem q748 : Cond.selects RX6 yX6_count yX6_count ∈ TB := tb_at 748 (by decide +kernel) (by decide +kernel)
theorem q749 : Cond.code yX6_count cX6_count 2 (some .int) ∈ TB := tb_at 749 (by decide +kernel) (by decide +kernel)
theorem q750 : Cond.methodLink RL 135 yX6_tape ∈ TB := tb_at 750 (by decide +kernel) (by decide +kernel)
theorem q751 : Cond.instanceMethod yX6_tape ∈ TB := tb_at 751 (by decide +kernel) (by decide +kernel)
theorem q752 : Cond.selects RX6 yX6_tape yX6_tape ∈ TB := tb_at 752 (by decide +kernel) (by decide +kernel)
theorem q753 : Cond.code yX6_tape cX6_tape 4 (some .int) ∈ TB := tb_at 753 (by decide +kernel) (by decide +kernel)
theorem q754 : Cond.methodLink RX6 243 yX3_becomesRow ∈ TB := tb_at 754 (by decide +kernel) (by decide +kernel)
theorem q755 : Cond.instanceMethod yX3_becomesRow ∈ TB := tb_at 755 (by decide +kernel) (by decide +kernel)
theorem q756 : Cond.selects RX3 yX3_becomesRow yX3_becomesRow ∈ TB := tb_at 756 (by decide +kernel) (by decide +kernel)
theorem q757 : Cond.code yX3_becomesRow cX3_becomesRow 3 none ∈ TB := tb_at 757 (by decide +kernel) (by decide +kernel)
theorem q758 : Cond.methodLink RX3 22 yJ7_fill_d0a16 ∈ TB := tb_at 758 (by decide +kernel) (by decide +kernel)
theorem q759 : Cond.static yJ7_fill_d0a16 ∈ TB := tb_at 759 (by decide +kernel) (by decide +kernel)
theorem q760 : Cond.code yJ7_fill_d0a16 cJ7_fill_d0a16 5 none ∈ TB := tb_at 760 (by decide +kernel) (by decide +kernel)
theorem q761 : Cond.methodLink "AmberGrains$Tape" 28 Lib.Math.min.name ∈ TB := tb_at 761 (by decide +kernel) (by decide +kernel)
theorem q762 : Cond.methodLink "AmberGrains$Tape" 34 Lib.Math.max.name ∈ TB := tb_at 762 (by decide +kernel) (by decide +kernel)
theorem q763 : Cond.methodLink RL 141 yX6_item ∈ TB := tb_at 763 (by decide +kernel) (by decide +kernel)
theorem q764 : Cond.instanceMethod yX6_item ∈ TB := tb_at 764 (by decide +kernel) (by decide +kernel)
theorem q765 : Cond.selects RX6 yX6_item yX6_item ∈ TB := tb_at 765 (by decide +kernel) (by decide +kernel)
theorem q766 : Cond.code yX6_item cX6_item 6 (some .int) ∈ TB := tb_at 766 (by decide +kernel) (by decide +kernel)
theorem q767 : Cond.methodLink RX6 246 yX3_fitted ∈ TB := tb_at 767 (by decide +kernel) (by decide +kernel)
theorem q768 : Cond.instanceMethod yX3_fitted ∈ TB := tb_at 768 (by decide +kernel) (by decide +kernel)
theorem q769 : Cond.selects RX3 yX3_fitted yX3_fitted ∈ TB := tb_at 769 (by decide +kernel) (by decide +kernel)
theorem q770 : Cond.code yX3_fitted cX3_fitted 3 (some .long) ∈ TB := tb_at 770 (by decide +kernel) (by decide +kernel)
theorem q771 : Cond.methodLink RL 146 yX6_read ∈ TB := tb_at 771 (by decide +kernel) (by decide +kernel)
theorem q772 : Cond.instanceMethod yX6_read ∈ TB := tb_at 772 (by decide +kernel) (by decide +kernel)
theorem q773 : Cond.selects RX6 yX6_read yX6_read ∈ TB := tb_at 773 (by decide +kernel) (by decide +kernel)
theorem q774 : Cond.code yX6_read cX6_read 3 (some .long) ∈ TB := tb_at 774 (by decide +kernel) (by decide +kernel)
theorem q775 : Cond.methodLink RL 151 yX6_shift ∈ TB := tb_at 775 (by decide +kernel) (by decide +kernel)
theorem q776 : Cond.instanceMethod yX6_shift ∈ TB := tb_at 776 (by decide +kernel) (by decide +kernel)
theorem q777 : Cond.selects RX6 yX6_shift yX6_shift ∈ TB := tb_at 777 (by decide +kernel) (by decide +kernel)
theorem q778 : Cond.code yX6_shift cX6_shift 8 (some .int) ∈ TB := tb_at 778 (by decide +kernel) (by decide +kernel)
theorem q779 : Cond.methodLink "AmberGrains" 250 arraycopyName ∈ TB := tb_at 779 (by decide +kernel) (by decide +kernel)
theorem q780 : Cond.classLink RL 10 RX7 ∈ TB := tb_at 780 (by decide +kernel) (by decide +kernel)
theorem q781 : Cond.instantiable RX7 28 ∈ TB := tb_at 781 (by decide +kernel) (by decide +kernel)
theorem q782 : Cond.methodLink RL 12 yX7_init ∈ TB := tb_at 782 (by decide +kernel) (by decide +kernel)
theorem q783 : Cond.instanceMethod yX7_init ∈ TB := tb_at 783 (by decide +kernel) (by decide +kernel)
theorem q784 : Cond.code yX7_init cX7_init 1 none ∈ TB := tb_at 784 (by decide +kernel) (by decide +kernel)
theorem q785 : Cond.methodLink "AmberGrainsModel" 3 objectInit ∈ TB := tb_at 785 (by decide +kernel) (by decide +kernel)
theorem q786 : Cond.methodLink RX7 9 yX7_fresh ∈ TB := tb_at 786 (by decide +kernel) (by decide +kernel)
theorem q787 : Cond.static yX7_fresh ∈ TB := tb_at 787 (by decide +kernel) (by decide +kernel)
theorem q788 : Cond.code yX7_fresh cX7_fresh 2 (some (.array .int)) ∈ TB := tb_at 788 (by decide +kernel) (by decide +kernel)
theorem q789 : Cond.fieldLink RX7 15 "AmberGrainsModel" "now" "[I" ∈ TB := tb_at 789 (by decide +kernel) (by decide +kernel)
theorem q790 : Cond.fieldLink RX7 19 "AmberGrainsModel" "mind" "[I" ∈ TB := tb_at 790 (by decide +kernel) (by decide +kernel)
theorem q791 : Cond.fieldLink RX7 22 "AmberGrainsModel" "then" "[I" ∈ TB := tb_at 791 (by decide +kernel) (by decide +kernel)
theorem q792 : Cond.fieldLink RX7 72 "AmberGrainsModel" "kept" "Z" ∈ TB := tb_at 792 (by decide +kernel) (by decide +kernel)
theorem q793 : Cond.fieldLink RX7 25 "AmberGrainsModel" "text" "[I" ∈ TB := tb_at 793 (by decide +kernel) (by decide +kernel)
theorem q794 : Cond.fieldLink RX7 123 "AmberGrainsModel" "texted" "I" ∈ TB := tb_at 794 (by decide +kernel) (by decide +kernel)
theorem q795 : Cond.fieldLink RX7 28 "AmberGrainsModel" "rules" "[I" ∈ TB := tb_at 795 (by decide +kernel) (by decide +kernel)
theorem q796 : Cond.fieldLink RX7 31 "AmberGrainsModel" "sizes" "[I" ∈ TB := tb_at 796 (by decide +kernel) (by decide +kernel)
theorem q797 : Cond.fieldLink RX7 177 "AmberGrainsModel" "ruled" "I" ∈ TB := tb_at 797 (by decide +kernel) (by decide +kernel)
theorem q798 : Cond.fieldLink RX7 34 "AmberGrainsModel" "read" "[I" ∈ TB := tb_at 798 (by decide +kernel) (by decide +kernel)
theorem q799 : Cond.fieldLink RX7 133 "AmberGrainsModel" "size" "I" ∈ TB := tb_at 799 (by decide +kernel) (by decide +kernel)
theorem q800 : Cond.fieldLink RX7 130 "AmberGrainsModel" "at" "I" ∈ TB := tb_at 800 (by decide +kernel) (by decide +kernel)
theorem q801 : Cond.fieldLink RX7 127 "AmberGrainsModel" "well" "Z" ∈ TB := tb_at 801 (by decide +kernel) (by decide +kernel)
theorem q802 : Cond.fieldLink RX7 150 "AmberGrainsModel" "within" "I" ∈ TB := tb_at 802 (by decide +kernel) (by decide +kernel)
theorem q803 : Cond.fieldLink RX7 168 "AmberGrainsModel" "sum" "I" ∈ TB := tb_at 803 (by decide +kernel) (by decide +kernel)
theorem q804 : Cond.fieldLink RX7 165 "AmberGrainsModel" "room" "I" ∈ TB := tb_at 804 (by decide +kernel) (by decide +kernel)
theorem q805 : Cond.fieldLink RX7 37 "AmberGrainsModel" "names" "[I" ∈ TB := tb_at 805 (by decide +kernel) (by decide +kernel)
theorem q806 : Cond.fieldLink RX7 40 "AmberGrainsModel" "letters" "[C" ∈ TB := tb_at 806 (by decide +kernel) (by decide +kernel)
theorem q807 : Cond.fieldLink RX7 44 "AmberGrainsModel" "words" "[C" ∈ TB := tb_at 807 (by decide +kernel) (by decide +kernel)
theorem q808 : Cond.fieldLink RX7 47 "AmberGrainsModel" "had" "[I" ∈ TB := tb_at 808 (by decide +kernel) (by decide +kernel)
theorem q809 : Cond.fieldLink RX7 50 "AmberGrainsModel" "above" "[I" ∈ TB := tb_at 809 (by decide +kernel) (by decide +kernel)
theorem q810 : Cond.fieldLink RX7 53 "AmberGrainsModel" "bodies" "[I" ∈ TB := tb_at 810 (by decide +kernel) (by decide +kernel)
theorem q811 : Cond.fieldLink RX7 56 "AmberGrainsModel" "trace" "[I" ∈ TB := tb_at 811 (by decide +kernel) (by decide +kernel)
theorem q812 : Cond.fieldLink RX7 236 "AmberGrainsModel" "ran" "I" ∈ TB := tb_at 812 (by decide +kernel) (by decide +kernel)
theorem q813 : Cond.fieldLink RX7 59 "AmberGrainsModel" "sorts" "[I" ∈ TB := tb_at 813 (by decide +kernel) (by decide +kernel)
theorem q814 : Cond.fieldLink RX7 62 "AmberGrainsModel" "lengths" "[I" ∈ TB := tb_at 814 (by decide +kernel) (by decide +kernel)
theorem q815 : Cond.fieldLink RX7 65 "AmberGrainsModel" "items" "[J" ∈ TB := tb_at 815 (by decide +kernel) (by decide +kernel)
theorem q816 : Cond.fieldLink RX7 69 "AmberGrainsModel" "moved" "[J" ∈ TB := tb_at 816 (by decide +kernel) (by decide +kernel)
theorem q874 : Cond.arrayClass .char ∈ TB := tb_at 874 (by decide +kernel) (by decide +kernel)
theorem q875 : Cond.methodLink RL 114 yX7_image ∈ TB := tb_at 875 (by decide +kernel) (by decide +kernel)
theorem q876 : Cond.instanceMethod yX7_image ∈ TB := tb_at 876 (by decide +kernel) (by decide +kernel)
theorem q877 : Cond.selects RX7 yX7_image yX7_image ∈ TB := tb_at 877 (by decide +kernel) (by decide +kernel)
theorem q878 : Cond.code yX7_image cX7_image 1 (some .int) ∈ TB := tb_at 878 (by decide +kernel) (by decide +kernel)
theorem q879 : Cond.methodLink RX7 76 yX7_move ∈ TB := tb_at 879 (by decide +kernel) (by decide +kernel)
theorem q880 : Cond.static yX7_move ∈ TB := tb_at 880 (by decide +kernel) (by decide +kernel)
theorem q881 : Cond.code yX7_move cX7_move 3 none ∈ TB := tb_at 881 (by decide +kernel) (by decide +kernel)
theorem q882 : Cond.methodLink RL 118 yX7_undo ∈ TB := tb_at 882 (by decide +kernel) (by decide +kernel)
theorem q883 : Cond.instanceMethod yX7_undo ∈ TB := tb_at 883 (by decide +kernel) (by decide +kernel)
theorem q884 : Cond.selects RX7 yX7_undo yX7_undo ∈ TB := tb_at 884 (by decide +kernel) (by decide +kernel)
theorem q885 : Cond.code yX7_undo cX7_undo 1 (some .int) ∈ TB := tb_at 885 (by decide +kernel) (by decide +kernel)
theorem q886 : Cond.methodLink RL 17 yX7_teller ∈ TB := tb_at 886 (by decide +kernel) (by decide +kernel)
theorem q887 : Cond.instanceMethod yX7_teller ∈ TB := tb_at 887 (by decide +kernel) (by decide +kernel)
theorem q888 : Cond.selects RX7 yX7_teller yX7_teller ∈ TB := tb_at 888 (by decide +kernel) (by decide +kernel)
theorem q889 : Cond.code yX7_teller cX7_teller 6 (some .int) ∈ TB := tb_at 889 (by decide +kernel) (by decide +kernel)
theorem q890 : Cond.methodLink RX7 80 yX7_isIn ∈ TB := tb_at 890 (by decide +kernel) (by decide +kernel)
theorem q891 : Cond.static yX7_isIn ∈ TB := tb_at 891 (by decide +kernel) (by decide +kernel)
theorem q892 : Cond.code yX7_isIn cX7_isIn 3 (some .boolean) ∈ TB := tb_at 892 (by decide +kernel) (by decide +kernel)
theorem q893 : Cond.methodLink RL 22 yX7_of ∈ TB := tb_at 893 (by decide +kernel) (by decide +kernel)
theorem q894 : Cond.instanceMethod yX7_of ∈ TB := tb_at 894 (by decide +kernel) (by decide +kernel)
theorem q895 : Cond.selects RX7 yX7_of yX7_of ∈ TB := tb_at 895 (by decide +kernel) (by decide +kernel)
theorem q896 : Cond.code yX7_of cX7_of 3 (some .int) ∈ TB := tb_at 896 (by decide +kernel) (by decide +kernel)
theorem q897 : Cond.methodLink RX7 88 yX7_isOne ∈ TB := tb_at 897 (by decide +kernel) (by decide +kernel)
theorem q899 : Cond.instanceMethod yX7_isOne ∈ TB := tb_at 899 (by decide +kernel) (by decide +kernel)
theorem q900 : Cond.code yX7_isOne cX7_isOne 2 (some .boolean) ∈ TB := tb_at 900 (by decide +kernel) (by decide +kernel)
theorem q901 : Cond.methodLink RX7 84 yX7_one ∈ TB := tb_at 901 (by decide +kernel) (by decide +kernel)
theorem q903 : Cond.instanceMethod yX7_one ∈ TB := tb_at 903 (by decide +kernel) (by decide +kernel)
theorem q904 : Cond.code yX7_one cX7_one 3 (some .int) ∈ TB := tb_at 904 (by decide +kernel) (by decide +kernel)
theorem q905 : Cond.methodLink RX7 92 yX7_load ∈ TB := tb_at 905 (by decide +kernel) (by decide +kernel)
theorem q907 : Cond.instanceMethod yX7_load ∈ TB := tb_at 907 (by decide +kernel) (by decide +kernel)
theorem q908 : Cond.code yX7_load cX7_load 3 (some .int) ∈ TB := tb_at 908 (by decide +kernel) (by decide +kernel)
theorem q909 : Cond.methodLink RX7 180 yX7_readFor ∈ TB := tb_at 909 (by decide +kernel) (by decide +kernel)
theorem q911 : Cond.instanceMethod yX7_readFor ∈ TB := tb_at 911 (by decide +kernel) (by decide +kernel)
theorem q912 : Cond.code yX7_readFor cX7_readFor 4 none ∈ TB := tb_at 912 (by decide +kernel) (by decide +kernel)
theorem q913 : Cond.methodLink RX7 174 yX7_readAll ∈ TB := tb_at 913 (by decide +kernel) (by decide +kernel)
theorem q915 : Cond.instanceMethod yX7_readAll ∈ TB := tb_at 915 (by decide +kernel) (by decide +kernel)
theorem q916 : Cond.code yX7_readAll cX7_readAll 2 (some .boolean) ∈ TB := tb_at 916 (by decide +kernel) (by decide +kernel)
theorem q917 : Cond.methodLink RX7 171 yX7_clause ∈ TB := tb_at 917 (by decide +kernel) (by decide +kernel)
theorem q919 : Cond.instanceMethod yX7_clause ∈ TB := tb_at 919 (by decide +kernel) (by decide +kernel)
theorem q920 : Cond.code yX7_clause cX7_clause 4 none ∈ TB := tb_at 920 (by decide +kernel) (by decide +kernel)
theorem q921 : Cond.methodLink RX7 136 yX7_isAt ∈ TB := tb_at 921 (by decide +kernel) (by decide +kernel)
theorem q923 : Cond.instanceMethod yX7_isAt ∈ TB := tb_at 923 (by decide +kernel) (by decide +kernel)
theorem q924 : Cond.code yX7_isAt cX7_isAt 2 (some .boolean) ∈ TB := tb_at 924 (by decide +kernel) (by decide +kernel)
theorem q925 : Cond.methodLink RX7 143 yX7_takes ∈ TB := tb_at 925 (by decide +kernel) (by decide +kernel)
theorem q927 : Cond.instanceMethod yX7_takes ∈ TB := tb_at 927 (by decide +kernel) (by decide +kernel)
theorem q928 : Cond.code yX7_takes cX7_takes 2 none ∈ TB := tb_at 928 (by decide +kernel) (by decide +kernel)
theorem q929 : Cond.methodLink RX7 146 yX7_number ∈ TB := tb_at 929 (by decide +kernel) (by decide +kernel)
theorem q931 : Cond.instanceMethod yX7_number ∈ TB := tb_at 931 (by decide +kernel) (by decide +kernel)
theorem q932 : Cond.code yX7_number cX7_number 2 (some .int) ∈ TB := tb_at 932 (by decide +kernel) (by decide +kernel)
theorem q933 : Cond.methodLink RX7 139 yX7_isDigit ∈ TB := tb_at 933 (by decide +kernel) (by decide +kernel)
theorem q935 : Cond.instanceMethod yX7_isDigit ∈ TB := tb_at 935 (by decide +kernel) (by decide +kernel)
theorem q936 : Cond.code yX7_isDigit cX7_isDigit 1 (some .boolean) ∈ TB := tb_at 936 (by decide +kernel) (by decide +kernel)
theorem q937 : Cond.methodLink RX7 156 yX7_any ∈ TB := tb_at 937 (by decide +kernel) (by decide +kernel)
theorem q939 : Cond.instanceMethod yX7_any ∈ TB := tb_at 939 (by decide +kernel) (by decide +kernel)
theorem q940 : Cond.code yX7_any cX7_any 3 (some .boolean) ∈ TB := tb_at 940 (by decide +kernel) (by decide +kernel)
theorem q941 : Cond.methodLink RX7 162 yX7_both ∈ TB := tb_at 941 (by decide +kernel) (by decide +kernel)
theorem q943 : Cond.instanceMethod yX7_both ∈ TB := tb_at 943 (by decide +kernel) (by decide +kernel)
theorem q944 : Cond.code yX7_both cX7_both 3 (some .boolean) ∈ TB := tb_at 944 (by decide +kernel) (by decide +kernel)
theorem q945 : Cond.methodLink RX7 153 yX7_factor ∈ TB := tb_at 945 (by decide +kernel) (by decide +kernel)
theorem q947 : Cond.instanceMethod yX7_factor ∈ TB := tb_at 947 (by decide +kernel) (by decide +kernel)
theorem q948 : Cond.code yX7_factor cX7_factor 2 (some .boolean) ∈ TB := tb_at 948 (by decide +kernel) (by decide +kernel)
theorem q949 : Cond.methodLink RX7 159 yX7_test ∈ TB := tb_at 949 (by decide +kernel) (by decide +kernel)
theorem q951 : Cond.instanceMethod yX7_test ∈ TB := tb_at 951 (by decide +kernel) (by decide +kernel)
theorem q952 : Cond.code yX7_test cX7_test 4 (some .boolean) ∈ TB := tb_at 952 (by decide +kernel) (by decide +kernel)
theorem q953 : Cond.methodLink RX7 183 yX7_isAnotherTwin ∈ TB := tb_at 953 (by decide +kernel) (by decide +kernel)
theorem q955 : Cond.instanceMethod yX7_isAnotherTwin ∈ TB := tb_at 955 (by decide +kernel) (by decide +kernel)
theorem q956 : Cond.code yX7_isAnotherTwin cX7_isAnotherTwin 4 (some .boolean) ∈ TB := tb_at 956 (by decide +kernel) (by decide +kernel)
theorem q957 : Cond.methodLink RX7 105 yX7_isAs ∈ TB := tb_at 957 (by decide +kernel) (by decide +kernel)
theorem q959 : Cond.instanceMethod yX7_isAs ∈ TB := tb_at 959 (by decide +kernel) (by decide +kernel)
theorem q960 : Cond.code yX7_isAs cX7_isAs 3 (some .boolean) ∈ TB := tb_at 960 (by decide +kernel) (by decide +kernel)
theorem q961 : Cond.methodLink "AmberGrainsModel" 186 Lib.Math.min.name ∈ TB := tb_at 961 (by decide +kernel) (by decide +kernel)
theorem q962 : Cond.methodLink RX7 96 yX7_blow ∈ TB := tb_at 962 (by decide +kernel) (by decide +kernel)
theorem q964 : Cond.instanceMethod yX7_blow ∈ TB := tb_at 964 (by decide +kernel) (by decide +kernel)
theorem q965 : Cond.code yX7_blow cX7_blow 6 (some .int) ∈ TB := tb_at 965 (by decide +kernel) (by decide +kernel)
theorem q966 : Cond.methodLink RX7 102 yX7_comes ∈ TB := tb_at 966 (by decide +kernel) (by decide +kernel)
theorem q968 : Cond.instanceMethod yX7_comes ∈ TB := tb_at 968 (by decide +kernel) (by decide +kernel)
theorem q969 : Cond.code yX7_comes cX7_comes 5 (some .int) ∈ TB := tb_at 969 (by decide +kernel) (by decide +kernel)
theorem q970 : Cond.methodLink RX7 200 yX7_day ∈ TB := tb_at 970 (by decide +kernel) (by decide +kernel)
theorem q972 : Cond.instanceMethod yX7_day ∈ TB := tb_at 972 (by decide +kernel) (by decide +kernel)
theorem q973 : Cond.code yX7_day cX7_day 4 none ∈ TB := tb_at 973 (by decide +kernel) (by decide +kernel)
theorem q974 : Cond.methodLink RX7 197 yX7_bringUp ∈ TB := tb_at 974 (by decide +kernel) (by decide +kernel)
theorem q976 : Cond.instanceMethod yX7_bringUp ∈ TB := tb_at 976 (by decide +kernel) (by decide +kernel)
theorem q977 : Cond.code yX7_bringUp cX7_bringUp 5 none ∈ TB := tb_at 977 (by decide +kernel) (by decide +kernel)
theorem q978 : Cond.methodLink RX7 191 yX7_loads ∈ TB := tb_at 978 (by decide +kernel) (by decide +kernel)
theorem q980 : Cond.instanceMethod yX7_loads ∈ TB := tb_at 980 (by decide +kernel) (by decide +kernel)
theorem q981 : Cond.code yX7_loads cX7_loads 3 (some .int) ∈ TB := tb_at 981 (by decide +kernel) (by decide +kernel)
theorem q982 : Cond.methodLink RX7 194 yX7_roomNow ∈ TB := tb_at 982 (by decide +kernel) (by decide +kernel)
theorem q984 : Cond.instanceMethod yX7_roomNow ∈ TB := tb_at 984 (by decide +kernel) (by decide +kernel)
theorem q985 : Cond.code yX7_roomNow cX7_roomNow 1 (some .int) ∈ TB := tb_at 985 (by decide +kernel) (by decide +kernel)
theorem q986 : Cond.methodLink RX7 109 yX7_change ∈ TB := tb_at 986 (by decide +kernel) (by decide +kernel)
theorem q988 : Cond.instanceMethod yX7_change ∈ TB := tb_at 988 (by decide +kernel) (by decide +kernel)
theorem q989 : Cond.code yX7_change cX7_change 5 (some .int) ∈ TB := tb_at 989 (by decide +kernel) (by decide +kernel)
theorem q990 : Cond.methodLink RX7 203 yX7_late ∈ TB := tb_at 990 (by decide +kernel) (by decide +kernel)
theorem q991 : Cond.static yX7_late ∈ TB := tb_at 991 (by decide +kernel) (by decide +kernel)
theorem q992 : Cond.code yX7_late cX7_late 1 (some .int) ∈ TB := tb_at 992 (by decide +kernel) (by decide +kernel)
theorem q993 : Cond.methodLink RX7 99 yX7_news ∈ TB := tb_at 993 (by decide +kernel) (by decide +kernel)
theorem q995 : Cond.instanceMethod yX7_news ∈ TB := tb_at 995 (by decide +kernel) (by decide +kernel)
theorem q996 : Cond.code yX7_news cX7_news 7 (some .int) ∈ TB := tb_at 996 (by decide +kernel) (by decide +kernel)
theorem q997 : Cond.methodLink RX7 113 yX7_says ∈ TB := tb_at 997 (by decide +kernel) (by decide +kernel)
theorem q999 : Cond.instanceMethod yX7_says ∈ TB := tb_at 999 (by decide +kernel) (by decide +kernel)
theorem q1000 : Cond.code yX7_says cX7_says 2 none ∈ TB := tb_at 1000 (by decide +kernel) (by decide +kernel)
theorem q1001 : Cond.methodLink RL 27 yX7_tell ∈ TB := tb_at 1001 (by decide +kernel) (by decide +kernel)
theorem q1002 : Cond.instanceMethod yX7_tell ∈ TB := tb_at 1002 (by decide +kernel) (by decide +kernel)
theorem q1003 : Cond.selects RX7 yX7_tell yX7_tell ∈ TB := tb_at 1003 (by decide +kernel) (by decide +kernel)
theorem q1004 : Cond.code yX7_tell cX7_tell 2 (some .int) ∈ TB := tb_at 1004 (by decide +kernel) (by decide +kernel)
theorem q1005 : Cond.methodLink RX7 117 yX7_howMany ∈ TB := tb_at 1005 (by decide +kernel) (by decide +kernel)
theorem q1007 : Cond.instanceMethod yX7_howMany ∈ TB := tb_at 1007 (by decide +kernel) (by decide +kernel)
theorem q1008 : Cond.code yX7_howMany cX7_howMany 4 (some .int) ∈ TB := tb_at 1008 (by decide +kernel) (by decide +kernel)
theorem q1009 : Cond.methodLink RL 31 yX7_weigh ∈ TB := tb_at 1009 (by decide +kernel) (by decide +kernel)
theorem q1010 : Cond.instanceMethod yX7_weigh ∈ TB := tb_at 1010 (by decide +kernel) (by decide +kernel)
theorem q1011 : Cond.selects RX7 yX7_weigh yX7_weigh ∈ TB := tb_at 1011 (by decide +kernel) (by decide +kernel)
theorem q1012 : Cond.code yX7_weigh cX7_weigh 3 (some .int) ∈ TB := tb_at 1012 (by decide +kernel) (by decide +kernel)
theorem q1013 : Cond.methodLink RL 35 yX7_put ∈ TB := tb_at 1013 (by decide +kernel) (by decide +kernel)
theorem q1014 : Cond.instanceMethod yX7_put ∈ TB := tb_at 1014 (by decide +kernel) (by decide +kernel)
theorem q1015 : Cond.selects RX7 yX7_put yX7_put ∈ TB := tb_at 1015 (by decide +kernel) (by decide +kernel)
theorem q1016 : Cond.code yX7_put cX7_put 4 (some .int) ∈ TB := tb_at 1016 (by decide +kernel) (by decide +kernel)
theorem q1017 : Cond.methodLink RX7 120 yX7_isPlace ∈ TB := tb_at 1017 (by decide +kernel) (by decide +kernel)
theorem q1018 : Cond.static yX7_isPlace ∈ TB := tb_at 1018 (by decide +kernel) (by decide +kernel)
theorem q1019 : Cond.code yX7_isPlace cX7_isPlace 1 (some .boolean) ∈ TB := tb_at 1019 (by decide +kernel) (by decide +kernel)
theorem q1020 : Cond.methodLink RL 39 yX7_sea ∈ TB := tb_at 1020 (by decide +kernel) (by decide +kernel)
theorem q1021 : Cond.instanceMethod yX7_sea ∈ TB := tb_at 1021 (by decide +kernel) (by decide +kernel)
theorem q1022 : Cond.selects RX7 yX7_sea yX7_sea ∈ TB := tb_at 1022 (by decide +kernel) (by decide +kernel)
theorem q1023 : Cond.code yX7_sea cX7_sea 4 (some .int) ∈ TB := tb_at 1023 (by decide +kernel) (by decide +kernel)
theorem q1024 : Cond.methodLink RL 43 yX7_row ∈ TB := tb_at 1024 (by decide +kernel) (by decide +kernel)
theorem q1025 : Cond.instanceMethod yX7_row ∈ TB := tb_at 1025 (by decide +kernel) (by decide +kernel)
theorem q1026 : Cond.selects RX7 yX7_row yX7_row ∈ TB := tb_at 1026 (by decide +kernel) (by decide +kernel)
theorem q1027 : Cond.code yX7_row cX7_row 4 (some .int) ∈ TB := tb_at 1027 (by decide +kernel) (by decide +kernel)
theorem q1028 : Cond.methodLink RL 47 yX7_feed ∈ TB := tb_at 1028 (by decide +kernel) (by decide +kernel)
theorem q1029 : Cond.instanceMethod yX7_feed ∈ TB := tb_at 1029 (by decide +kernel) (by decide +kernel)
theorem q1030 : Cond.selects RX7 yX7_feed yX7_feed ∈ TB := tb_at 1030 (by decide +kernel) (by decide +kernel)
theorem q1031 : Cond.code yX7_feed cX7_feed 2 (some .int) ∈ TB := tb_at 1031 (by decide +kernel) (by decide +kernel)
theorem q1032 : Cond.methodLink RL 52 yX7_chart ∈ TB := tb_at 1032 (by decide +kernel) (by decide +kernel)
theorem q1033 : Cond.instanceMethod yX7_chart ∈ TB := tb_at 1033 (by decide +kernel) (by decide +kernel)
theorem q1034 : Cond.selects RX7 yX7_chart yX7_chart ∈ TB := tb_at 1034 (by decide +kernel) (by decide +kernel)
theorem q1035 : Cond.code yX7_chart cX7_chart 2 (some .int) ∈ TB := tb_at 1035 (by decide +kernel) (by decide +kernel)
theorem q1036 : Cond.methodLink RL 56 yX7_told ∈ TB := tb_at 1036 (by decide +kernel) (by decide +kernel)
theorem q1037 : Cond.instanceMethod yX7_told ∈ TB := tb_at 1037 (by decide +kernel) (by decide +kernel)
theorem q1038 : Cond.selects RX7 yX7_told yX7_told ∈ TB := tb_at 1038 (by decide +kernel) (by decide +kernel)
theorem q1039 : Cond.code yX7_told cX7_told 2 (some .int) ∈ TB := tb_at 1039 (by decide +kernel) (by decide +kernel)
theorem q1040 : Cond.methodLink RX7 206 yX7_which ∈ TB := tb_at 1040 (by decide +kernel) (by decide +kernel)
theorem q1042 : Cond.instanceMethod yX7_which ∈ TB := tb_at 1042 (by decide +kernel) (by decide +kernel)
theorem q1043 : Cond.code yX7_which cX7_which 4 (some .int) ∈ TB := tb_at 1043 (by decide +kernel) (by decide +kernel)
theorem q1044 : Cond.methodLink RL 60 yX7_pass ∈ TB := tb_at 1044 (by decide +kernel) (by decide +kernel)
theorem q1045 : Cond.instanceMethod yX7_pass ∈ TB := tb_at 1045 (by decide +kernel) (by decide +kernel)
theorem q1046 : Cond.selects RX7 yX7_pass yX7_pass ∈ TB := tb_at 1046 (by decide +kernel) (by decide +kernel)
theorem q1047 : Cond.code yX7_pass cX7_pass 2 (some .int) ∈ TB := tb_at 1047 (by decide +kernel) (by decide +kernel)
theorem q1048 : Cond.methodLink RX7 209 yX7_days ∈ TB := tb_at 1048 (by decide +kernel) (by decide +kernel)
theorem q1050 : Cond.instanceMethod yX7_days ∈ TB := tb_at 1050 (by decide +kernel) (by decide +kernel)
theorem q1051 : Cond.code yX7_days cX7_days 3 none ∈ TB := tb_at 1051 (by decide +kernel) (by decide +kernel)
theorem q1052 : Cond.methodLink RL 64 yX7_on ∈ TB := tb_at 1052 (by decide +kernel) (by decide +kernel)
theorem q1053 : Cond.instanceMethod yX7_on ∈ TB := tb_at 1053 (by decide +kernel) (by decide +kernel)
theorem q1054 : Cond.selects RX7 yX7_on yX7_on ∈ TB := tb_at 1054 (by decide +kernel) (by decide +kernel)
theorem q1055 : Cond.code yX7_on cX7_on 4 (some .int) ∈ TB := tb_at 1055 (by decide +kernel) (by decide +kernel)
theorem q1056 : Cond.methodLink RL 68 yX7_begin ∈ TB := tb_at 1056 (by decide +kernel) (by decide +kernel)
theorem q1057 : Cond.instanceMethod yX7_begin ∈ TB := tb_at 1057 (by decide +kernel) (by decide +kernel)
theorem q1058 : Cond.selects RX7 yX7_begin yX7_begin ∈ TB := tb_at 1058 (by decide +kernel) (by decide +kernel)
theorem q1059 : Cond.code yX7_begin cX7_begin 8 (some .int) ∈ TB := tb_at 1059 (by decide +kernel) (by decide +kernel)
theorem q1060 : Cond.methodLink RX7 212 yX7_on ∈ TB := tb_at 1060 (by decide +kernel) (by decide +kernel)
theorem q1061 : Cond.methodLink "AmberGrainsModel" 215 Lib.Math.max.name ∈ TB := tb_at 1061 (by decide +kernel) (by decide +kernel)
theorem q1062 : Cond.methodLink RL 72 yX7_see ∈ TB := tb_at 1062 (by decide +kernel) (by decide +kernel)
theorem q1063 : Cond.instanceMethod yX7_see ∈ TB := tb_at 1063 (by decide +kernel) (by decide +kernel)
theorem q1064 : Cond.selects RX7 yX7_see yX7_see ∈ TB := tb_at 1064 (by decide +kernel) (by decide +kernel)
theorem q1065 : Cond.code yX7_see cX7_see 5 (some .int) ∈ TB := tb_at 1065 (by decide +kernel) (by decide +kernel)
theorem q1066 : Cond.methodLink RL 76 yX7_weights ∈ TB := tb_at 1066 (by decide +kernel) (by decide +kernel)
theorem q1067 : Cond.instanceMethod yX7_weights ∈ TB := tb_at 1067 (by decide +kernel) (by decide +kernel)
theorem q1068 : Cond.selects RX7 yX7_weights yX7_weights ∈ TB := tb_at 1068 (by decide +kernel) (by decide +kernel)
theorem q1069 : Cond.code yX7_weights cX7_weights 2 (some .int) ∈ TB := tb_at 1069 (by decide +kernel) (by decide +kernel)
theorem q1070 : Cond.methodLink RX7 221 yX7_fits ∈ TB := tb_at 1070 (by decide +kernel) (by decide +kernel)
theorem q1072 : Cond.instanceMethod yX7_fits ∈ TB := tb_at 1072 (by decide +kernel) (by decide +kernel)
theorem q1073 : Cond.code yX7_fits cX7_fits 7 (some .int) ∈ TB := tb_at 1073 (by decide +kernel) (by decide +kernel)
theorem q1074 : Cond.methodLink RX7 218 yX7_isAllSeen ∈ TB := tb_at 1074 (by decide +kernel) (by decide +kernel)
theorem q1076 : Cond.instanceMethod yX7_isAllSeen ∈ TB := tb_at 1076 (by decide +kernel) (by decide +kernel)
theorem q1077 : Cond.code yX7_isAllSeen cX7_isAllSeen 5 (some .boolean) ∈ TB := tb_at 1077 (by decide +kernel) (by decide +kernel)
theorem q1078 : Cond.methodLink RL 80 yX7_can ∈ TB := tb_at 1078 (by decide +kernel) (by decide +kernel)
theorem q1079 : Cond.instanceMethod yX7_can ∈ TB := tb_at 1079 (by decide +kernel) (by decide +kernel)
theorem q1080 : Cond.selects RX7 yX7_can yX7_can ∈ TB := tb_at 1080 (by decide +kernel) (by decide +kernel)
theorem q1081 : Cond.code yX7_can cX7_can 7 (some .int) ∈ TB := tb_at 1081 (by decide +kernel) (by decide +kernel)
theorem q1082 : Cond.methodLink RL 85 yX7_odds ∈ TB := tb_at 1082 (by decide +kernel) (by decide +kernel)
theorem q1083 : Cond.instanceMethod yX7_odds ∈ TB := tb_at 1083 (by decide +kernel) (by decide +kernel)
theorem q1084 : Cond.selects RX7 yX7_odds yX7_odds ∈ TB := tb_at 1084 (by decide +kernel) (by decide +kernel)
theorem q1085 : Cond.code yX7_odds cX7_odds 7 (some .long) ∈ TB := tb_at 1085 (by decide +kernel) (by decide +kernel)
theorem q1086 : Cond.constantLong RX7 228 (-9223372036854775808) ∈ TB := tb_at 1086 (by decide +kernel) (by decide +kernel)
theorem q1087 : Cond.constantLong RX7 230 (12) ∈ TB := tb_at 1087 (by decide +kernel) (by decide +kernel)
theorem q1088 : Cond.methodLink RX7 232 yX7_fraction ∈ TB := tb_at 1088 (by decide +kernel) (by decide +kernel)
theorem q1089 : Cond.static yX7_fraction ∈ TB := tb_at 1089 (by decide +kernel) (by decide +kernel)
theorem q1090 : Cond.code yX7_fraction cX7_fraction 11 (some .long) ∈ TB := tb_at 1090 (by decide +kernel) (by decide +kernel)
theorem q1091 : Cond.methodLink "AmberGrainsModel" 224 Lib.MathLoose.abs_long.x ∈ TB := tb_at 1091 (by decide +kernel) (by decide +kernel)
theorem q1092 : Cond.static Lib.MathLoose.abs_long.x ∈ TB := tb_at 1092 (by decide +kernel) (by decide +kernel)
theorem q1093 : Cond.code Lib.MathLoose.abs_long.x Lib.MathLoose.abs_long.code 2 (some .long) ∈ TB := tb_at 1093 (by decide +kernel) (by decide +kernel)
theorem q1094 : Cond.methodLink RL 90 yX7_mean ∈ TB := tb_at 1094 (by decide +kernel) (by decide +kernel)
theorem q1095 : Cond.instanceMethod yX7_mean ∈ TB := tb_at 1095 (by decide +kernel) (by decide +kernel)
theorem q1096 : Cond.selects RX7 yX7_mean yX7_mean ∈ TB := tb_at 1096 (by decide +kernel) (by decide +kernel)
theorem q1097 : Cond.code yX7_mean cX7_mean 3 (some .long) ∈ TB := tb_at 1097 (by decide +kernel) (by decide +kernel)
theorem q1098 : Cond.methodLink RL 94 yX7_plan ∈ TB := tb_at 1098 (by decide +kernel) (by decide +kernel)
theorem q1099 : Cond.instanceMethod yX7_plan ∈ TB := tb_at 1099 (by decide +kernel) (by decide +kernel)
theorem q1100 : Cond.selects RX7 yX7_plan yX7_plan ∈ TB := tb_at 1100 (by decide +kernel) (by decide +kernel)
theorem q1101 : Cond.code yX7_plan cX7_plan 4 (some .int) ∈ TB := tb_at 1101 (by decide +kernel) (by decide +kernel)
theorem q1102 : Cond.methodLink RL 98 yX7_ends ∈ TB := tb_at 1102 (by decide +kernel) (by decide +kernel)
theorem q1103 : Cond.instanceMethod yX7_ends ∈ TB := tb_at 1103 (by decide +kernel) (by decide +kernel)
theorem q1104 : Cond.selects RX7 yX7_ends yX7_ends ∈ TB := tb_at 1104 (by decide +kernel) (by decide +kernel)
theorem q1105 : Cond.code yX7_ends cX7_ends 5 (some .int) ∈ TB := tb_at 1105 (by decide +kernel) (by decide +kernel)
theorem q1106 : Cond.methodLink RL 102 yX7_book ∈ TB := tb_at 1106 (by decide +kernel) (by decide +kernel)
theorem q1107 : Cond.instanceMethod yX7_book ∈ TB := tb_at 1107 (by decide +kernel) (by decide +kernel)
theorem q1108 : Cond.selects RX7 yX7_book yX7_book ∈ TB := tb_at 1108 (by decide +kernel) (by decide +kernel)
theorem q1109 : Cond.code yX7_book cX7_book 3 (some .int) ∈ TB := tb_at 1109 (by decide +kernel) (by decide +kernel)
theorem q1110 : Cond.methodLink RL 106 yX7_looked ∈ TB := tb_at 1110 (by decide +kernel) (by decide +kernel)
theorem q1111 : Cond.instanceMethod yX7_looked ∈ TB := tb_at 1111 (by decide +kernel) (by decide +kernel)
theorem q1112 : Cond.selects RX7 yX7_looked yX7_looked ∈ TB := tb_at 1112 (by decide +kernel) (by decide +kernel)
theorem q1113 : Cond.code yX7_looked cX7_looked 2 (some .int) ∈ TB := tb_at 1113 (by decide +kernel) (by decide +kernel)
theorem q1114 : Cond.methodLink RL 122 yX7_act ∈ TB := tb_at 1114 (by decide +kernel) (by decide +kernel)
theorem q1115 : Cond.instanceMethod yX7_act ∈ TB := tb_at 1115 (by decide +kernel) (by decide +kernel)
theorem q1116 : Cond.selects RX7 yX7_act yX7_act ∈ TB := tb_at 1116 (by decide +kernel) (by decide +kernel)
theorem q1117 : Cond.code yX7_act cX7_act 4 (some .int) ∈ TB := tb_at 1117 (by decide +kernel) (by decide +kernel)
theorem q1118 : Cond.methodLink RX7 246 yX7_all ∈ TB := tb_at 1118 (by decide +kernel) (by decide +kernel)
theorem q1120 : Cond.instanceMethod yX7_all ∈ TB := tb_at 1120 (by decide +kernel) (by decide +kernel)
theorem q1121 : Cond.code yX7_all cX7_all 4 (some .int) ∈ TB := tb_at 1121 (by decide +kernel) (by decide +kernel)
theorem q1122 : Cond.methodLink RX7 239 yX7_byKind ∈ TB := tb_at 1122 (by decide +kernel) (by decide +kernel)
theorem q1124 : Cond.instanceMethod yX7_byKind ∈ TB := tb_at 1124 (by decide +kernel) (by decide +kernel)
theorem q1125 : Cond.code yX7_byKind cX7_byKind 7 (some .int) ∈ TB := tb_at 1125 (by decide +kernel) (by decide +kernel)
theorem q1126 : Cond.methodLink RX7 243 yX7_body ∈ TB := tb_at 1126 (by decide +kernel) (by decide +kernel)
theorem q1128 : Cond.instanceMethod yX7_body ∈ TB := tb_at 1128 (by decide +kernel) (by decide +kernel)
theorem q1129 : Cond.code yX7_body cX7_body 2 (some .int) ∈ TB := tb_at 1129 (by decide +kernel) (by decide +kernel)
theorem q1130 : Cond.methodLink RL 126 yX7_trace ∈ TB := tb_at 1130 (by decide +kernel) (by decide +kernel)
theorem q1131 : Cond.instanceMethod yX7_trace ∈ TB := tb_at 1131 (by decide +kernel) (by decide +kernel)
theorem q1132 : Cond.selects RX7 yX7_trace yX7_trace ∈ TB := tb_at 1132 (by decide +kernel) (by decide +kernel)
theorem q1133 : Cond.code yX7_trace cX7_trace 2 (some .int) ∈ TB := tb_at 1133 (by decide +kernel) (by decide +kernel)
theorem q1134 : Cond.methodLink RL 130 yX7_taken ∈ TB := tb_at 1134 (by decide +kernel) (by decide +kernel)
theorem q1135 : Cond.instanceMethod yX7_taken ∈ TB := tb_at 1135 (by decide +kernel) (by decide +kernel)
theorem q1136 : Cond.selects RX7 yX7_taken yX7_taken ∈ TB := tb_at 1136 (by decide +kernel) (by decide +kernel)
theorem q1137 : Cond.code yX7_taken cX7_taken 4 (some .int) ∈ TB := tb_at 1137 (by decide +kernel) (by decide +kernel)
theorem q1138 : Cond.methodLink RL 134 yX7_count ∈ TB := tb_at 1138 (by decide +kernel) (by decide +kernel)
theorem q1139 : Cond.instanceMethod yX7_count ∈ TB := tb_at 1139 (by decide +kernel) (by decide +kernel)
theorem q1140 : Cond.selects RX7 yX7_count yX7_count ∈ TB := tb_at 1140 (by decide +kernel) (by decide +kernel)
theorem q1141 : Cond.code yX7_count cX7_count 2 (some .int) ∈ TB := tb_at 1141 (by decide +kernel) (by decide +kernel)
theorem q1142 : Cond.methodLink RL 138 yX7_tape ∈ TB := tb_at 1142 (by decide +kernel) (by decide +kernel)
theorem q1143 : Cond.instanceMethod yX7_tape ∈ TB := tb_at 1143 (by decide +kernel) (by decide +kernel)
theorem q1144 : Cond.selects RX7 yX7_tape yX7_tape ∈ TB := tb_at 1144 (by decide +kernel) (by decide +kernel)
theorem q1145 : Cond.code yX7_tape cX7_tape 5 (some .int) ∈ TB := tb_at 1145 (by decide +kernel) (by decide +kernel)
theorem q1146 : Cond.methodLink RX7 249 yX7_isTape ∈ TB := tb_at 1146 (by decide +kernel) (by decide +kernel)
theorem q1147 : Cond.static yX7_isTape ∈ TB := tb_at 1147 (by decide +kernel) (by decide +kernel)
theorem q1148 : Cond.code yX7_isTape cX7_isTape 1 (some .boolean) ∈ TB := tb_at 1148 (by decide +kernel) (by decide +kernel)
theorem q1149 : Cond.methodLink RL 145 yX7_item ∈ TB := tb_at 1149 (by decide +kernel) (by decide +kernel)
theorem q1150 : Cond.instanceMethod yX7_item ∈ TB := tb_at 1150 (by decide +kernel) (by decide +kernel)
theorem q1151 : Cond.selects RX7 yX7_item yX7_item ∈ TB := tb_at 1151 (by decide +kernel) (by decide +kernel)
theorem q1152 : Cond.code yX7_item cX7_item 6 (some .int) ∈ TB := tb_at 1152 (by decide +kernel) (by decide +kernel)
theorem q1153 : Cond.methodLink RL 150 yX7_read ∈ TB := tb_at 1153 (by decide +kernel) (by decide +kernel)
theorem q1154 : Cond.instanceMethod yX7_read ∈ TB := tb_at 1154 (by decide +kernel) (by decide +kernel)
theorem q1155 : Cond.selects RX7 yX7_read yX7_read ∈ TB := tb_at 1155 (by decide +kernel) (by decide +kernel)
theorem q1156 : Cond.code yX7_read cX7_read 3 (some .long) ∈ TB := tb_at 1156 (by decide +kernel) (by decide +kernel)
theorem q1157 : Cond.methodLink RL 155 yX7_shift ∈ TB := tb_at 1157 (by decide +kernel) (by decide +kernel)
theorem q1158 : Cond.instanceMethod yX7_shift ∈ TB := tb_at 1158 (by decide +kernel) (by decide +kernel)
theorem q1159 : Cond.selects RX7 yX7_shift yX7_shift ∈ TB := tb_at 1159 (by decide +kernel) (by decide +kernel)
theorem q1160 : Cond.code yX7_shift cX7_shift 7 (some .int) ∈ TB := tb_at 1160 (by decide +kernel) (by decide +kernel)
theorem q1161 : Cond.methodLink RL 110 yX7_judge ∈ TB := tb_at 1161 (by decide +kernel) (by decide +kernel)
theorem q1162 : Cond.instanceMethod yX7_judge ∈ TB := tb_at 1162 (by decide +kernel) (by decide +kernel)
theorem q1163 : Cond.selects RX7 yX7_judge yX7_judge ∈ TB := tb_at 1163 (by decide +kernel) (by decide +kernel)
theorem q1164 : Cond.code yX7_judge cX7_judge 6 (some .int) ∈ TB := tb_at 1164 (by decide +kernel) (by decide +kernel)
theorem q1165 : Cond.constantLong RL 139 (4294967295) ∈ TB := tb_at 1165 (by decide +kernel) (by decide +kernel)
theorem q1166 : Cond.fieldLink RJ0 9 "java/lang/String" "value" "[B" ∈ TB := tb_at 1166 (by decide +kernel) (by decide +kernel)
theorem q1167 : Cond.fieldLink RJ0 15 "java/lang/String" "coder" "B" ∈ TB := tb_at 1167 (by decide +kernel) (by decide +kernel)
end
section
/-! The abstract heap of a run: our cells by their numbers (16, 17 ..: in the order in which they were made), what stood before the law by numbers below 16 (0 the script; 1, 2 static arrays; 3 .. 8 texts; 9 .. 14 their bytes). A reference is such a number. -/
abbrev zE : Type := (Nat × vp_A) ⊕ (Nat × List Value)
abbrev Hp : Type := Nat × (Nat → zE)
/-- where our cells begin; where the sixteen stand; classes and slots; classes of arrays; how long the script is, and what it holds -/
abbrev GT : Type := Nat × (Nat → Nat) × va_G × (Nat → ClassId) × Nat × (Nat → Int32)
def gb (G : GT) : Nat := G.1
def glo (G : GT) : Nat → Nat := G.2.1
def gD (G : GT) : va_G := G.2.2.1
def gC (G : GT) : Nat → ClassId := G.2.2.2.1
def gL (G : GT) : Nat := G.2.2.2.2.1
def gx (G : GT) : Nat → Int32 := G.2.2.2.2.2
def zad (G : GT) (i : Nat) : Nat := if i < 16 then glo G i else gb G + (i - 16)
def zV (G : GT) : Value → Value
  | .ref i => .ref (zad G i)
  | .int x => .int x
  | .long x => .long x
  | .float x => .float x
  | .double x => .double x
  | .null => .null
  | .retAddr x => .retAddr x
def zA (G : GT) (a : vp_A) : vp_A := (a.1, match a.2 with
  | .inl f => .inl f
  | .inr (.inl f) => .inr (.inl f)
  | .inr (.inr (.inl f)) => .inr (.inr (.inl f))
  | .inr (.inr (.inr (.inl f))) => .inr (.inr (.inr (.inl f)))
  | .inr (.inr (.inr (.inr f))) => .inr (.inr (.inr (.inr (fun j => (f j).map (zad G))))))
def zC (G : GT) (e : zE) : va_E := match e with
  | .inl (k, a) => .inl (gC G k, zA G a)
  | .inr (c, fs) => .inr (c, fs.map (zV G))
def ak : Nat → FieldType
  | 0 => .int
  | 1 => .byte
  | 2 => .char
  | 3 => .long
  | _ => .object "AmberGrains$Tape"
def gtys (G : GT) : List (ClassId × FieldType) := [(gC G 0, ak 0), (gC G 1, ak 1), (gC G 2, ak 2), (gC G 3, ak 3), (gC G 4, ak 4)]
abbrev zcl : List vw_C := [(RX0, TX0, 7), (RX1, TX1, 3), (RX2, TX2, 2), (RX3, TX3, 3), (RX4, TX4, 5), (RX5, TX5, 15), (RX6, TX6, 14), (RX7, TX7, 28)]
def tabA (j : Nat) : Int32 := [0, 0, 0, 0, 1, 2, 3].getD j 0
def tabB (j : Nat) : Int32 := [10, 11, 12, 10, 20, 12, 30, 11, 12, 10, 11, 40, 50, 51, 12, 30, 11, 60, 71, 70, 40].getD j 0
def sLen : List Nat := [6, 5, 5, 6, 1, 1]
def sByt : List (List Int32) := [[112, 107, 118, 119, 97, 100], [114, 111, 111, 109, 32], [115, 111, 117, 114, 32], [115, 119, 101, 101, 116, 32], [32], [41]]
def zdead : zE := .inr (99, [])
def zlow (G : GT) (i : Nat) : zE := if i = 0 then .inl (0, (gL G, .inl (gx G))) else if i = 1 then .inl (0, (7, .inl tabA)) else if i = 2 then .inl (0, (21, .inl tabB)) else if i < 9 then .inr (100 + (i - 3), []) else if i < 15 then .inl (1, (sLen.getD (i - 9) 0, .inl (fun j => (sByt.getD (i - 9) []).getD j 0))) else zdead
/-- what a method may change -/
def zW (G : GT) : Nat → Prop := fun q => gb G ≤ q
def HR (G : GT) (h : Hp) (H : Heap) : Prop := H.size = gb G + h.1 ∧ (∀ i, i < h.1 → va_at (gD G) zcl (gb G + i, zC G (h.2 (16 + i))) H) ∧ (∀ i, h.1 + 16 ≤ i → h.2 i = zdead) ∧ ∀ i, i < 16 → h.2 i = zlow G i
def zstr : List (String × Nat × String × Nat) := [("AmberGrains$World", 38, "pkvwad", 3), ("AmberGrains$Reader", 85, "pkvwad", 3), ("AmberGrains$Reader", 54, "room ", 4), ("AmberGrains$Reader", 63, "sour ", 5), ("AmberGrains$Reader", 65, "sweet ", 6), ("AmberGrains$Reader", 67, " ", 7), ("AmberGrains$Reader", 80, ")", 8)]
def znF : List (Nat × String × String × String) := [(201, "AmberGrains$Rows", "size", "I"), (240, "AmberGrains$Reader", "length", "I"), (234, "AmberGrains$Voice", "kept", "[I"), (224, "AmberGrains$Voice", "ran", "I"), (217, "AmberGrains$Tape", "items", "[J"), (213, "AmberGrains$Tape", "sort", "I"), (216, "AmberGrains$Tape", "size", "I")]
def znM : List (Nat × MethodName) := [(57, yX0_init), (74, yX4_init), (79, yX3_init)]
/-- what stands from the law's start on: classes, static arrays, texts -/
def St (G : GT) (U : State) (H : Heap) : Prop :=
  va_K (gD G) zcl (gtys G) U ∧
  (∀ i k n f, i < 16 → zlow G i = .inl (k, (n, .inl f)) → va_T (ak k) (glo G i) n (fun j => .int (f j)) (zW G) U H) ∧
  va_Z "AmberGrains$Voice" "ABOVE" "[I" (.ref (glo G 1)) (zW G) U H ∧
  va_Z "AmberGrains$Voice" "BODIES" "[I" (.ref (glo G 2)) (zW G) U H ∧
  va_Z "java/lang/String" "COMPACT_STRINGS" "Z" (.int 1) (zW G) U H ∧
  (∀ i, i < 6 → va_O "java/lang/String" (glo G (3 + i)) (zW G) U H ∧ va_OF "java/lang/String" "coder" "B" (.int 0) (glo G (3 + i)) (zW G) U H ∧ va_OF "java/lang/String" "value" "[B" (.ref (glo G (9 + i))) (glo G (3 + i)) (zW G) U H) ∧
  (∀ q ∈ zstr, vk_R q.1 q.2.1 q.2.2.1 (glo G q.2.2.2) U) ∧
  (∀ q ∈ znF, va_Nw (.fieldLinkNest "AmberGrains" q.1 q.2.1 q.2.2.1 q.2.2.2 "AmberGrains") U) ∧
  (∀ q ∈ znM, va_Nw (.methodLinkNest "AmberGrains" q.1 q.2 "AmberGrains") U) ∧
  va_AO "AmberGrains$Tape" U
theorem St.warm {G : GT} {s U : State} {H H1 : Heap} (h : St G s H) (hW : s.WarmedH U.vm) (hq : ∀ a : Nat, a < H.size → ¬ zW G a → H1[a]? = H[a]?) : St G U H1 := by
  obtain ⟨h1, h2, h3, h4, h5, h6, h7, h8, h9, h10⟩ := h
  have hv := hW.alike
  exact ⟨va_K.moved hv h1, fun i k n f hi e => (va_T.moved hv (h2 i k n f hi e)).kept hq, (va_Z.moved hv h3).kept hq, (va_Z.moved hv h4).kept hq, (va_Z.moved hv h5).kept hq,
    fun i hi => ⟨(va_O.moved hv (h6 i hi).1).kept hq, (va_OF.moved hv (h6 i hi).2.1).kept hq, (va_OF.moved hv (h6 i hi).2.2).kept hq⟩, fun q hq => vk_R.warm hW (h7 q hq), fun q hq => va_Nw.warmF hW (h8 q hq), fun q hq => va_Nw.warmM hW (h9 q hq), va_AO.moved hv h10⟩
theorem St.call {G : GT} {U : State} (g : JFrame) (mk : MethodId) (a : Array Value) (h : St G U U.heap) : St G (U.calling g mk a) (U.calling g mk a).heap := by
  obtain ⟨h1, h2, h3, h4, h5, h6, h7, h8, h9, h10⟩ := h
  have hv : U.vm.Alike (U.calling g mk a).vm := Vm.Alike.refl U.vm
  exact ⟨va_K.moved hv h1, fun i k n f hi e => va_T.moved hv (h2 i k n f hi e), va_Z.moved hv h3, va_Z.moved hv h4, va_Z.moved hv h5,
    fun i hi => ⟨va_O.moved hv (h6 i hi).1, va_OF.moved hv (h6 i hi).2.1, va_OF.moved hv (h6 i hi).2.2⟩, fun q hq => vk_R.same (u := U) rfl (h7 q hq), fun q hq => va_Nw.same (u := U) rfl rfl (h8 q hq), fun q hq => va_Nw.same (u := U) rfl rfl (h9 q hq), va_AO.moved hv h10⟩
/-- a method: its class, its bytes, its locals, what it returns, whether it makes -/
abbrev MT : Type := String × ByteArray × Nat × Option FieldType × Bool
def Cx (G : GT) (M : MT) (p : Program) (s : State) (m : MethodId) (args : Array Value) (meth : Method) (c : Code) : Prop :=
  p.tables.exec = Jvm.exec ∧ c.code = M.2.1 ∧ c.maxLocals = M.2.2.1 ∧ meth.sig.returnType = M.2.2.2.1 ∧ meth.locks = false ∧ (M.2.2.2.2 = true → meth.name = "<init>") ∧ s.vm.findClass M.1 = some m.cls ∧ (∀ w ∈ TB, w.before args s = true) ∧ St G s s.heap ∧ gb G ≤ s.heap.size
abbrev rmd (d mc ms : Nat) : Room := { frames := d, cells := mc, slots := ms, locals := 64 * d }
/-- the instruction by which a value is given back -/
def zri : Option Value → Option FieldType → Instr → Prop
  | none, none, i => i = .return_
  | some (.int x), some ty, i => i = .ireturn ∧ narrow ty (.int x) = .int x
  | some (.long _), some ty, i => i = .lreturn ∧ ty = .long
  | some (.ref _), some ty, i => i = .areturn ∧ ty.isReference = true
  | some .null, some ty, i => i = .areturn ∧ ty.isReference = true
  | _, _, _ => False
/-- the locals: by their numbers, what is known of them -/
abbrev LV : Type := List (Option Value)
def zlv (G : GT) : Nat → LV → List (Nat × Value)
  | _, [] => []
  | n, none :: t => zlv G (n + 1) t
  | n, some v :: t => (n, zV G v) :: zlv G (n + 1) t
/-- at the end: from any world of the post, the instruction that gives back goes to Z -/
def zFin (l : Launch) (G : GT) (M : MT) (R : Room) (p : Program) (e : Env) (s : State) (m : MethodId) (args : Array Value) (below : List Frame) (meth : Method) (c : Code) (Q : Option Value → Hp → Prop) (Z : State → Prop) : Prop :=
  ∀ (v : Option Value) (h : Hp) (H : Heap) (locs : List Loc) (pc : Nat) (ls : Array Slot) (i : Instr), Q v h → HR G h H → va_S (zW G) s.heap H locs → decode M.2.1 pc = .ok (i, 1) → zri v M.2.2.2.1 i →
    W p l e R s m args below meth c H locs R.cells R.slots Z (F0 m pc ls ((v.map (zV G)).toList))
/-- what a walk has to show at pc: with any machine behind it, the end is reached -/
def AW (l : Launch) (G : GT) (M : MT) (d mc ms : Nat) (Q : Option Value → Hp → Prop) (k n : Nat) (h : Hp) (lv : LV) (st : List Value) (pc : Nat) : Prop :=
  ∀ (p : Program) (e : Env) (s : State) (m : MethodId) (args : Array Value) (below : List Frame) (meth : Method) (c : Code) (H : Heap) (locs : List Loc) (ls : Array Slot) (Z : State → Prop),
    Cx G M p s m args meth c → HR G h H → va_S (zW G) s.heap H locs → lv_has ls M.2.2.1 (zlv G 0 lv) → zFin l G M (rmd d mc ms) p e s m args below meth c Q Z →
    W p l e (rmd d mc ms) s m args below meth c H locs k n Z (F0 m pc ls (st.map (zV G)))
/-- a contract: at depth d, making mc cells of ms slots -/
def Ct (l : Launch) (G : GT) (M : MT) (y : MethodName) (d mc ms : Nat) (as : List Value) (h : Hp) (Q : Option Value → Hp → Prop) : Prop :=
  Met l y (.code y M.2.1 M.2.2.1 M.2.2.2.1 :: TB) (rmd d mc ms) (va_Pc (as.map (zV G)) (fun U => St G U U.heap ∧ HR G h U.heap ∧ gb G ≤ U.heap.size))
    (fun _ st oc t => (∃ (v : Option Value) (h' : Hp), oc = .returned (v.map (zV G)) ∧ Q v h' ∧ HR G h' t.heap) ∧ va_F (zW G) st t) mc ms (zW G)
def hset (h : Hp) (a : Nat) (e : zE) : Hp := (h.1, fun x => if x = a then e else h.2 x)
def hnew (h : Hp) (e : zE) : Hp := (h.1 + 1, fun x => if x = h.1 + 16 then e else h.2 x)
theorem zlv_mem {G : GT} : ∀ (lv : LV) (n i : Nat) (v : Value), lv[i]? = some (some v) → (n + i, zV G v) ∈ zlv G n lv
  | [], _, _, _, h => by simp at h
  | x :: t, n, 0, v, h => by
    simp only [List.getElem?_cons_zero, Option.some.injEq] at h
    subst h
    exact List.mem_cons_self
  | none :: t, n, i + 1, v, h => by
    rw [List.getElem?_cons_succ] at h
    have h2 := zlv_mem (G := G) t (n + 1) i v h
    rw [show n + (i + 1) = n + 1 + i by omega]
    exact h2
  | some y :: t, n, i + 1, v, h => by
    rw [List.getElem?_cons_succ] at h
    have h2 := zlv_mem (G := G) t (n + 1) i v h
    rw [show n + (i + 1) = n + 1 + i by omega]
    exact List.mem_cons_of_mem _ h2
theorem zlv_at {G : GT} {ls : Array Slot} {nL : Nat} {lv : LV} (h : lv_has ls nL (zlv G 0 lv)) {i : Nat} {v : Value} (hi : lv[i]? = some (some v)) : ls[i]? = some (.val (zV G v)) := by
  have h2 := h.2.2 _ (zlv_mem (G := G) lv 0 i v hi)
  rwa [Nat.zero_add] at h2
def zcut : Option Value → Option Value
  | some (.long _) => none
  | some (.double _) => none
  | x => x
/-- a value of one slot is laid at i -/
def zst : LV → Nat → Value → LV
  | [], _, _ => []
  | _ :: t, 0, v => some v :: t
  | x :: t, 1, v => zcut x :: zst t 0 v
  | x :: t, i + 2, v => x :: zst t (i + 1) v
/-- a value of two slots -/
def zst2 : LV → Nat → Value → LV
  | [], _, _ => []
  | [_], 0, _ => [none]
  | _ :: _ :: t, 0, v => some v :: none :: t
  | x :: t, 1, v => zcut x :: zst2 t 0 v
  | x :: t, i + 2, v => x :: zst2 t (i + 1) v
theorem zV_cat (G : GT) (v : Value) : (zV G v).category = v.category := by cases v <;> rfl
theorem zlv_ge {G : GT} : ∀ (lv : LV) (n : Nat) (q : Nat × Value), q ∈ zlv G n lv → n ≤ q.1
  | [], _, _, h => by cases h
  | none :: t, n, q, h => Nat.le_trans (Nat.le_succ n) (zlv_ge t (n + 1) q h)
  | some v :: t, n, q, h => by
    rcases List.mem_cons.mp h with rfl | h
    · exact Nat.le_refl _
    · exact Nat.le_trans (Nat.le_succ n) (zlv_ge t (n + 1) q h)
theorem zlv_cut {G : GT} (x : Option Value) (t : LV) (n : Nat) (q : Nat × Value) (h : q ∈ zlv G n (zcut x :: t)) : q ∈ zlv G (n + 1) t ∨ (q.1 = n ∧ ¬ q.2.category = 2 ∧ q ∈ zlv G n (x :: t)) := by
  cases x with
  | none => exact Or.inl h
  | some v =>
    cases v with
    | long y => exact Or.inl h
    | double y => exact Or.inl h
    | _ =>
      rcases List.mem_cons.mp h with rfl | h
      · exact Or.inr ⟨rfl, by simp [zV, Value.category], List.mem_cons_self⟩
      · exact Or.inl h
theorem zlv_tl {G : GT} (x : Option Value) (t : LV) (n : Nat) (q : Nat × Value) (h : q ∈ zlv G (n + 1) t) : q ∈ zlv G n (x :: t) := by
  cases x with
  | none => exact h
  | some v => exact List.mem_cons_of_mem _ h
theorem zlv_hd {G : GT} (x : Option Value) (t : LV) (n : Nat) (q : Nat × Value) (h : q ∈ zlv G n (x :: t)) : (q.1 = n ∧ x.map (zV G) = some q.2) ∨ q ∈ zlv G (n + 1) t := by
  cases x with
  | none => exact Or.inr h
  | some v =>
    rcases List.mem_cons.mp h with rfl | h
    · exact Or.inl ⟨rfl, rfl⟩
    · exact Or.inr h
theorem zst_mem {G : GT} : ∀ (lv : LV) (n i : Nat) (v : Value) (q : Nat × Value), q ∈ zlv G n (zst lv i v) → (q = (n + i, zV G v)) ∨ (q ∈ zlv G n lv ∧ ¬ q.1 = n + i ∧ ¬ (q.1 + 1 = n + i ∧ q.2.category = 2))
  | [], n, i, v, q, h => by simp [zst, zlv] at h
  | x :: t, n, 0, v, q, h => by
    simp only [zst] at h
    rcases List.mem_cons.mp h with rfl | h
    · exact Or.inl rfl
    · have := zlv_ge t (n + 1) q h
      exact Or.inr ⟨zlv_tl x t n q h, by omega, by omega⟩
  | x :: t, n, 1, v, q, h => by
    simp only [zst] at h
    rcases zlv_cut x _ n q h with h | ⟨h1, h2, h3⟩
    · rcases zst_mem t (n + 1) 0 v q h with rfl | ⟨g1, g2, g3⟩
      · exact Or.inl rfl
      · exact Or.inr ⟨zlv_tl x t n q g1, by omega, fun z => by have := zlv_ge t (n + 1) q g1; omega⟩
    · refine Or.inr ⟨?_, by omega, fun z => h2 z.2⟩
      rcases zlv_hd x _ n q h3 with ⟨a, b⟩ | h
      · cases x with
        | none => cases b
        | some w =>
          have : q = (n, zV G w) := by
            obtain ⟨q1, q2⟩ := q
            simp only [Option.map_some, Option.some.injEq] at a b
            rw [a, b]
          rw [this]
          exact List.mem_cons_self
      · have := zlv_ge _ (n + 1) q h
        omega
  | x :: t, n, i + 2, v, q, h => by
    simp only [zst] at h
    rcases zlv_hd x _ n q h with ⟨a, b⟩ | h
    · refine Or.inr ⟨?_, by omega, by omega⟩
      cases x with
      | none => cases b
      | some w =>
        have : q = (n, zV G w) := by
          obtain ⟨q1, q2⟩ := q
          simp only [Option.map_some, Option.some.injEq] at a b
          rw [a, b]
        rw [this]
        exact List.mem_cons_self
    · rcases zst_mem t (n + 1) (i + 1) v q h with rfl | ⟨g1, g2, g3⟩
      · exact Or.inl (by rw [show n + (i + 2) = n + 1 + (i + 1) by omega])
      · exact Or.inr ⟨zlv_tl x t n q g1, by omega, by rw [show n + (i + 2) = n + 1 + (i + 1) by omega]; exact g3⟩
theorem zst_has {G : GT} {ls : Array Slot} {nL i : Nat} {v : Value} {lv : LV} (h : lv_has ls nL ((i, zV G v) :: (zlv G 0 lv).filter (fun q => !(q.1 == i) && !(q.1 + 1 == i && q.2.category == 2)))) : lv_has ls nL (zlv G 0 (zst lv i v)) := by
  refine ⟨h.1, h.2.1, fun q hq => h.2.2 q ?_⟩
  rcases zst_mem lv 0 i v q hq with rfl | ⟨h1, h2, h3⟩
  · rw [Nat.zero_add]
    exact List.mem_cons_self
  · rw [Nat.zero_add] at h2 h3
    refine List.mem_cons_of_mem _ (List.mem_filter.mpr ⟨h1, ?_⟩)
    have e1 : (q.1 == i) = false := by simpa using h2
    have e2 : (q.1 + 1 == i && q.2.category == 2) = false := by
      by_cases z : q.1 + 1 = i
      · have : ¬ q.2.category = 2 := fun y => h3 ⟨z, y⟩
        simp [this]
      · simp [z]
    simp [e1, e2]
theorem zst2_mem {G : GT} : ∀ (lv : LV) (n i : Nat) (v : Value) (q : Nat × Value), q ∈ zlv G n (zst2 lv i v) → (q = (n + i, zV G v)) ∨ (q ∈ zlv G n lv ∧ ¬ q.1 = n + i ∧ ¬ q.1 = n + i + 1 ∧ ¬ (q.1 + 1 = n + i ∧ q.2.category = 2))
  | [], n, i, v, q, h => by simp [zst2, zlv] at h
  | [x], n, 0, v, q, h => by simp [zst2, zlv] at h
  | x :: y :: t, n, 0, v, q, h => by
    simp only [zst2] at h
    rcases List.mem_cons.mp h with rfl | h
    · exact Or.inl rfl
    · have h' : q ∈ zlv G (n + 1 + 1) t := h
      have := zlv_ge t (n + 1 + 1) q h'
      exact Or.inr ⟨zlv_tl x _ n q (zlv_tl y t (n + 1) q h'), by omega, by omega, by omega⟩
  | x :: t, n, 1, v, q, h => by
    simp only [zst2] at h
    rcases zlv_cut x _ n q h with h | ⟨h1, h2, h3⟩
    · rcases zst2_mem t (n + 1) 0 v q h with rfl | ⟨g1, g2, g4, g3⟩
      · exact Or.inl rfl
      · exact Or.inr ⟨zlv_tl x t n q g1, by omega, by omega, fun z => by have := zlv_ge t (n + 1) q g1; omega⟩
    · refine Or.inr ⟨?_, by omega, by omega, fun z => h2 z.2⟩
      rcases zlv_hd x _ n q h3 with ⟨a, b⟩ | h
      · cases x with
        | none => cases b
        | some w =>
          have : q = (n, zV G w) := by
            obtain ⟨q1, q2⟩ := q
            simp only [Option.map_some, Option.some.injEq] at a b
            rw [a, b]
          rw [this]
          exact List.mem_cons_self
      · have := zlv_ge _ (n + 1) q h
        omega
  | x :: t, n, i + 2, v, q, h => by
    simp only [zst2] at h
    rcases zlv_hd x _ n q h with ⟨a, b⟩ | h
    · refine Or.inr ⟨?_, by omega, by omega, by omega⟩
      cases x with
      | none => cases b
      | some w =>
        have : q = (n, zV G w) := by
          obtain ⟨q1, q2⟩ := q
          simp only [Option.map_some, Option.some.injEq] at a b
          rw [a, b]
        rw [this]
        exact List.mem_cons_self
    · rcases zst2_mem t (n + 1) (i + 1) v q h with rfl | ⟨g1, g2, g4, g3⟩
      · exact Or.inl (by rw [show n + (i + 2) = n + 1 + (i + 1) by omega])
      · exact Or.inr ⟨zlv_tl x t n q g1, by omega, by omega, by rw [show n + (i + 2) = n + 1 + (i + 1) by omega]; exact g3⟩
theorem zst2_has {G : GT} {ls : Array Slot} {nL i : Nat} {v : Value} {lv : LV} (h : lv_has ls nL ((i, zV G v) :: (zlv G 0 lv).filter (fun q => !(q.1 == i) && (!(q.1 == i + 1) && !(q.1 + 1 == i && q.2.category == 2))))) : lv_has ls nL (zlv G 0 (zst2 lv i v)) := by
  refine ⟨h.1, h.2.1, fun q hq => h.2.2 q ?_⟩
  rcases zst2_mem lv 0 i v q hq with rfl | ⟨h1, h2, h4, h3⟩
  · rw [Nat.zero_add]
    exact List.mem_cons_self
  · rw [Nat.zero_add] at h2 h3 h4
    refine List.mem_cons_of_mem _ (List.mem_filter.mpr ⟨h1, ?_⟩)
    have e1 : (q.1 == i) = false := by simpa using h2
    have e3 : (q.1 == i + 1) = false := by simpa using h4
    have e2 : (q.1 + 1 == i && q.2.category == 2) = false := by
      by_cases z : q.1 + 1 = i
      · have : ¬ q.2.category = 2 := fun y => h3 ⟨z, y⟩
        simp [this]
      · simp [z]
    simp [e1, e2, e3]
/-! the heap under reads, writes, new cells -/
theorem HR.idx {G : GT} {h : Hp} {H : Heap} (hR : HR G h H) {a : Nat} (h16 : 16 ≤ a) (hd : h.2 a ≠ zdead) : a < h.1 + 16 := by
  rcases Nat.lt_or_ge a (h.1 + 16) with q | q
  · exact q
  · exact absurd (hR.2.2.1 a q) hd
theorem HR.at {G : GT} {h : Hp} {H : Heap} (hR : HR G h H) {a : Nat} (h16 : 16 ≤ a) (hd : h.2 a ≠ zdead) : va_at (gD G) zcl (zad G a, zC G (h.2 a)) H := by
  have hi := hR.idx h16 hd
  have h1 := hR.2.1 (a - 16) (by omega)
  rw [show 16 + (a - 16) = a by omega] at h1
  rw [show zad G a = gb G + (a - 16) from if_neg (by omega)]
  exact h1
theorem HR.one {G : GT} {h : Hp} {H : Heap} (hR : HR G h H) {a : Nat} {e : zE} (h16 : 16 ≤ a) (he : h.2 a = e) (hd : e ≠ zdead) : va_P (gD G) zcl [(zad G a, zC G e)] H := by
  intro k q hk
  have h1 := hR.at h16 (by rw [he]; exact hd)
  rw [he] at h1
  have hz : k < 1 := (List.getElem?_eq_some_iff.mp hk).1
  rw [show k = 0 by omega] at hk
  cases hk
  exact h1
theorem zlow_obj {G : GT} {i ci : Nat} {fs : List Value} (h : zlow G i = .inr (ci, fs)) : zcl[ci]? = none := by
  unfold zlow at h
  split at h
  · cases h
  · split at h
    · cases h
    · split at h
      · cases h
      · split at h
        · obtain ⟨rfl, -⟩ := Prod.mk.inj (Sum.inr.inj h)
          exact List.getElem?_eq_none (by simp; omega)
        · split at h
          · cases h
          · obtain ⟨rfl, -⟩ := Prod.mk.inj (Sum.inr.inj h)
            rfl
theorem HR.obj {G : GT} {h : Hp} {H : Heap} (hR : HR G h H) {a ci : Nat} {fs : List Value} {q : vw_C} (he : h.2 a = .inr (ci, fs)) (hc : zcl[ci]? = some q) : 16 ≤ a ∧ (Sum.inr (ci, fs) : zE) ≠ zdead := by
  refine ⟨?_, fun z => ?_⟩
  · rcases Nat.lt_or_ge a 16 with z | z
    · have h1 := hR.2.2.2 a z
      rw [he] at h1
      rw [zlow_obj h1.symm] at hc
      cases hc
    · exact z
  · obtain ⟨rfl, -⟩ := Prod.mk.inj (Sum.inr.inj z)
    cases hc
theorem zinl {x : Nat × vp_A} : (Sum.inl x : zE) ≠ zdead := fun z => by cases z
theorem zad_in {G : GT} {a a' : Nat} (h : 16 ≤ a) (h' : 16 ≤ a') (e : zad G a = zad G a') : a = a' := by
  unfold zad at e
  rw [if_neg (by omega), if_neg (by omega)] at e
  omega
theorem HR.set {G : GT} {h : Hp} {H H1 : Heap} (hR : HR G h H) {a : Nat} {e : zE} (h16 : 16 ≤ a) (hd : h.2 a ≠ zdead) (he : va_at (gD G) zcl (zad G a, zC G e) H1) (z : H1.size = H.size) (oq : ∀ q : Nat, q ≠ zad G a → H1[q]? = H[q]?) : HR G (hset h a e) H1 := by
  have hi := hR.idx h16 hd
  refine ⟨by rw [z]; exact hR.1, fun i hl => ?_, fun i hl => ?_, fun i hl => ?_⟩
  · have e2 : gb G + i = zad G (16 + i) := by unfold zad; rw [if_neg (by omega)]; omega
    show va_at (gD G) zcl (gb G + i, zC G (if 16 + i = a then e else h.2 (16 + i))) H1
    by_cases c : 16 + i = a
    · rw [if_pos c, e2, c]
      exact he
    · rw [if_neg c]
      refine (hR.2.1 i hl).kept (oq _ ?_)
      show gb G + i ≠ zad G a
      rw [e2]
      exact fun w => c (zad_in (by omega) h16 w)
  · show (if i = a then e else h.2 i) = zdead
    have hl : h.1 + 16 ≤ i := hl
    rw [if_neg (by omega)]
    exact hR.2.2.1 i hl
  · show (if i = a then e else h.2 i) = zlow G i
    rw [if_neg (by omega)]
    exact hR.2.2.2 i hl
theorem HR.new {G : GT} {h : Hp} {H H1 : Heap} (hR : HR G h H) {e : zE} (he : va_at (gD G) zcl (H.size, zC G e) H1) (z : H1.size = H.size + 1) (oq : ∀ q : Nat, q < H.size → H1[q]? = H[q]?) : HR G (hnew h e) H1 := by
  refine ⟨by rw [z, hR.1]; rfl, fun i hl => ?_, fun i hl => ?_, fun i hl => ?_⟩
  · have hl : i < h.1 + 1 := hl
    show va_at (gD G) zcl (gb G + i, zC G (if 16 + i = h.1 + 16 then e else h.2 (16 + i))) H1
    by_cases c : 16 + i = h.1 + 16
    · rw [if_pos c, show gb G + i = H.size by rw [hR.1]; omega]
      exact he
    · rw [if_neg c]
      have h1 := hR.2.1 i (by omega)
      exact h1.kept (oq _ h1.lt)
  · have hl : h.1 + 1 + 16 ≤ i := hl
    show (if i = h.1 + 16 then e else h.2 i) = zdead
    rw [if_neg (by omega)]
    exact hR.2.2.1 i (by omega)
  · show (if i = h.1 + 16 then e else h.2 i) = zlow G i
    rw [if_neg (by omega)]
    exact hR.2.2.2 i hl
theorem HR.nad {G : GT} {h : Hp} {H : Heap} (hR : HR G h H) : Value.ref H.size = zV G (.ref (h.1 + 16)) := by
  show Value.ref H.size = Value.ref (zad G (h.1 + 16))
  rw [hR.1, show zad G (h.1 + 16) = gb G + (h.1 + 16 - 16) from if_neg (by omega), Nat.add_sub_cancel]
theorem zS.put {G : GT} {H0 H H1 : Heap} {locs : List Loc} {a k : Nat} (h : va_S (zW G) H0 H locs) (z : H1.size = H.size) (oq : ∀ q : Nat, q ≠ zad G a → H1[q]? = H[q]?) (h16 : 16 ≤ a) : va_S (zW G) H0 H1 (locs ++ [⟨zad G a, k⟩]) := h.put z oq (show gb G ≤ zad G a by unfold zad; rw [if_neg (by omega)]; omega)
theorem zS.new {G : GT} {H0 H H1 : Heap} {locs : List Loc} (h : va_S (zW G) H0 H locs) (z : H1.size = H.size + 1) (oq : ∀ q : Nat, q < H.size → H1[q]? = H[q]?) : va_S (zW G) H0 H1 locs :=
  ⟨Nat.le_trans h.1 (by omega), fun x h1 h2 => (oq x (Nat.lt_of_lt_of_le h1 h.1)).trans (h.2.1 x h1 h2), h.2.2⟩
end
section
def zisr : Value → Prop
  | .ref _ => True
  | .null => True
  | _ => False
section ZR
variable {l : Launch} {G : GT} {M : MT} {d mc ms k n pc pc' : Nat} {Q : Option Value → Hp → Prop} {h : Hp} {lv : LV} {st : List Value}

theorem aw_iconst {z : Int} {v : Int32} (hd : decode M.2.1 pc = .ok (.iconst z, 1)) (hn : pc + 1 = pc') (hv : Int32.ofInt z = v) (kk : AW l G M d mc ms Q k n h lv (.int v :: st) pc') : AW l G M d mc ms Q k n h lv st pc := by
  intro p e s m args below meth c H locs ls Z hC hR hS hl hF
  have hx := hC.1
  have hb := hC.2.1
  subst hn
  exact lv_iconst hx hb hd hv (kk p e s m args below meth c H locs ls Z hC hR hS hl hF)
theorem aw_bipush {z : Int} {v : Int32} (hd : decode M.2.1 pc = .ok (.bipush z, 2)) (hn : pc + 2 = pc') (hv : (Int8.ofInt z).toInt32 = v) (kk : AW l G M d mc ms Q k n h lv (.int v :: st) pc') : AW l G M d mc ms Q k n h lv st pc := by
  intro p e s m args below meth c H locs ls Z hC hR hS hl hF
  have hx := hC.1
  have hb := hC.2.1
  subst hn
  exact lv_bipush hx hb hd hv (kk p e s m args below meth c H locs ls Z hC hR hS hl hF)
theorem aw_sipush {z : Int} {v : Int32} (hd : decode M.2.1 pc = .ok (.sipush z, 3)) (hn : pc + 3 = pc') (hv : (Int16.ofInt z).toInt32 = v) (kk : AW l G M d mc ms Q k n h lv (.int v :: st) pc') : AW l G M d mc ms Q k n h lv st pc := by
  intro p e s m args below meth c H locs ls Z hC hR hS hl hF
  have hx := hC.1
  have hb := hC.2.1
  subst hn
  exact lv_sipush hx hb hd hv (kk p e s m args below meth c H locs ls Z hC hR hS hl hF)
theorem aw_lconst {z : Fin 2} {v : Int64} (hd : decode M.2.1 pc = .ok (.lconst z, 1)) (hn : pc + 1 = pc') (hv : Int64.ofNat (z : Nat) = v) (kk : AW l G M d mc ms Q k n h lv (.long v :: st) pc') : AW l G M d mc ms Q k n h lv st pc := by
  intro p e s m args below meth c H locs ls Z hC hR hS hl hF
  have hx := hC.1
  have hb := hC.2.1
  subst hn
  exact lv_lconst hx hb hd hv (kk p e s m args below meth c H locs ls Z hC hR hS hl hF)
theorem aw_null  (hd : decode M.2.1 pc = .ok (.aconst_null, 1)) (hn : pc + 1 = pc')  (kk : AW l G M d mc ms Q k n h lv (.null :: st) pc') : AW l G M d mc ms Q k n h lv st pc := by
  intro p e s m args below meth c H locs ls Z hC hR hS hl hF
  have hx := hC.1
  have hb := hC.2.1
  subst hn
  exact lv_null hx hb hd (kk p e s m args below meth c H locs ls Z hC hR hS hl hF)
theorem aw_ldc {i : Nat} {v : Int32} (hd : decode M.2.1 pc = .ok (.ldc i, 2)) (hn : pc + 2 = pc') (hw : Cond.constant M.1 i v ∈ TB) (kk : AW l G M d mc ms Q k n h lv (.int v :: st) pc') : AW l G M d mc ms Q k n h lv st pc := by
  intro p e s m args below meth c H locs ls Z hC hR hS hl hF
  have hx := hC.1
  have hb := hC.2.1
  subst hn
  exact lv_ldc hx hb hC.2.2.2.2.2.2.1 (hC.2.2.2.2.2.2.2.1 _ hw) hd (kk p e s m args below meth c H locs ls Z hC hR hS hl hF)
theorem aw_ldc2 {i : Nat} {v : Int64} (hd : decode M.2.1 pc = .ok (.ldc2_w i, 3)) (hn : pc + 3 = pc') (hw : Cond.constantLong M.1 i v ∈ TB) (kk : AW l G M d mc ms Q k n h lv (.long v :: st) pc') : AW l G M d mc ms Q k n h lv st pc := by
  intro p e s m args below meth c H locs ls Z hC hR hS hl hF
  have hx := hC.1
  have hb := hC.2.1
  subst hn
  exact lv_ldc2 hx hb hC.2.2.2.2.2.2.1 (hC.2.2.2.2.2.2.2.1 _ hw) hd (kk p e s m args below meth c H locs ls Z hC hR hS hl hF)
theorem aw_ldcS {i a : Nat} {tx : String} (hd : decode M.2.1 pc = .ok (.ldc i, 2)) (hn : pc + 2 = pc') (hw : (M.1, i, tx, a) ∈ zstr) (ha : a < 16) (kk : AW l G M d mc ms Q k n h lv (.ref a :: st) pc') : AW l G M d mc ms Q k n h lv st pc := by
  intro p e s m args below meth c H locs ls Z hC hR hS hl hF
  have hx := hC.1
  have hb := hC.2.1
  subst hn
  exact va_ldcS hx hb hC.2.2.2.2.2.2.1 (by have h7 := hC.2.2.2.2.2.2.2.2.1.2.2.2.2.2.2.1 _ hw; rw [show zad G a = glo G a from if_pos ha]; exact h7) hd (kk p e s m args below meth c H locs ls Z hC hR hS hl hF)
theorem aw_iload_n {z : Fin 4} {x : Int32} (hd : decode M.2.1 pc = .ok (.iload_n z, 1)) (hn : pc + 1 = pc') (hv : lv[(z : Nat)]? = some (some (.int x))) (kk : AW l G M d mc ms Q k n h lv (.int x :: st) pc') : AW l G M d mc ms Q k n h lv st pc := by
  intro p e s m args below meth c H locs ls Z hC hR hS hl hF
  have hx := hC.1
  have hb := hC.2.1
  subst hn
  exact lv_iload_n hx hb hd rfl (zlv_at hl hv) (kk p e s m args below meth c H locs ls Z hC hR hS hl hF)
theorem aw_iload {z : Nat} {x : Int32} (hd : decode M.2.1 pc = .ok (.iload z, 2)) (hn : pc + 2 = pc') (hv : lv[z]? = some (some (.int x))) (kk : AW l G M d mc ms Q k n h lv (.int x :: st) pc') : AW l G M d mc ms Q k n h lv st pc := by
  intro p e s m args below meth c H locs ls Z hC hR hS hl hF
  have hx := hC.1
  have hb := hC.2.1
  subst hn
  exact lv_iload hx hb hd (zlv_at hl hv) (kk p e s m args below meth c H locs ls Z hC hR hS hl hF)
theorem aw_lload_n {z : Fin 4} {x : Int64} (hd : decode M.2.1 pc = .ok (.lload_n z, 1)) (hn : pc + 1 = pc') (hv : lv[(z : Nat)]? = some (some (.long x))) (kk : AW l G M d mc ms Q k n h lv (.long x :: st) pc') : AW l G M d mc ms Q k n h lv st pc := by
  intro p e s m args below meth c H locs ls Z hC hR hS hl hF
  have hx := hC.1
  have hb := hC.2.1
  subst hn
  exact lv_lload_n hx hb hd rfl (zlv_at hl hv) (kk p e s m args below meth c H locs ls Z hC hR hS hl hF)
theorem aw_lload {z : Nat} {x : Int64} (hd : decode M.2.1 pc = .ok (.lload z, 2)) (hn : pc + 2 = pc') (hv : lv[z]? = some (some (.long x))) (kk : AW l G M d mc ms Q k n h lv (.long x :: st) pc') : AW l G M d mc ms Q k n h lv st pc := by
  intro p e s m args below meth c H locs ls Z hC hR hS hl hF
  have hx := hC.1
  have hb := hC.2.1
  subst hn
  exact lv_lload hx hb hd (zlv_at hl hv) (kk p e s m args below meth c H locs ls Z hC hR hS hl hF)
theorem aw_aload_n {z : Fin 4} {v : Value} (hd : decode M.2.1 pc = .ok (.aload_n z, 1)) (hn : pc + 1 = pc') (hv : lv[(z : Nat)]? = some (some v)) (hr : zisr v) (kk : AW l G M d mc ms Q k n h lv (v :: st) pc') : AW l G M d mc ms Q k n h lv st pc := by
  intro p e s m args below meth c H locs ls Z hC hR hS hl hF
  have hx := hC.1
  have hb := hC.2.1
  subst hn
  have hv := zlv_at hl hv
  have K := kk p e s m args below meth c H locs ls Z hC hR hS hl hF
  cases v with
  | ref a => exact lv_aload_n hx hb hd rfl hv K
  | null => exact lv_aload_nN hx hb hd rfl hv K
  | _ => exact hr.elim
theorem aw_aload {z : Nat} {v : Value} (hd : decode M.2.1 pc = .ok (.aload z, 2)) (hn : pc + 2 = pc') (hv : lv[z]? = some (some v)) (hr : zisr v) (kk : AW l G M d mc ms Q k n h lv (v :: st) pc') : AW l G M d mc ms Q k n h lv st pc := by
  intro p e s m args below meth c H locs ls Z hC hR hS hl hF
  have hx := hC.1
  have hb := hC.2.1
  subst hn
  have hv := zlv_at hl hv
  have K := kk p e s m args below meth c H locs ls Z hC hR hS hl hF
  cases v with
  | ref a => exact lv_aload hx hb hd hv K
  | null => exact lv_aloadN hx hb hd hv K
  | _ => exact hr.elim
theorem aw_istore_n {z : Fin 4} {x : Int32} (hd : decode M.2.1 pc = .ok (.istore_n z, 1)) (hn : pc + 1 = pc') (hi : (z : Nat) < M.2.2.1) (kk : AW l G M d mc ms Q k n h (zst lv (z : Nat) (.int x)) st pc') : AW l G M d mc ms Q k n h lv (.int x :: st) pc := by
  intro p e s m args below meth c H locs ls Z hC hR hS hl hF
  have hx := hC.1
  have hb := hC.2.1
  subst hn
  exact lv_istore_n hx hb hd rfl hl hi rfl (fun ls' hl' => kk p e s m args below meth c H locs ls' Z hC hR hS (zst_has hl') hF)
theorem aw_lstore_n {z : Fin 4} {x : Int64} (hd : decode M.2.1 pc = .ok (.lstore_n z, 1)) (hn : pc + 1 = pc') (hi : (z : Nat) + 1 < M.2.2.1) (kk : AW l G M d mc ms Q k n h (zst2 lv (z : Nat) (.long x)) st pc') : AW l G M d mc ms Q k n h lv (.long x :: st) pc := by
  intro p e s m args below meth c H locs ls Z hC hR hS hl hF
  have hx := hC.1
  have hb := hC.2.1
  subst hn
  exact lv_lstore_n hx hb hd rfl hl hi rfl (fun ls' hl' => kk p e s m args below meth c H locs ls' Z hC hR hS (zst2_has hl') hF)
theorem aw_astore_n {z : Fin 4} {v : Value} (hd : decode M.2.1 pc = .ok (.astore_n z, 1)) (hn : pc + 1 = pc') (hi : (z : Nat) < M.2.2.1) (hr : zisr v) (kk : AW l G M d mc ms Q k n h (zst lv (z : Nat) v) st pc') : AW l G M d mc ms Q k n h lv (v :: st) pc := by
  intro p e s m args below meth c H locs ls Z hC hR hS hl hF
  have hx := hC.1
  have hb := hC.2.1
  subst hn
  cases v with
  | ref a => exact lv_astore_n hx hb hd rfl hl hi rfl (fun ls' hl' => kk p e s m args below meth c H locs ls' Z hC hR hS (zst_has (v := .ref a) hl') hF)
  | null => exact lv_astore_nN hx hb hd rfl hl hi rfl (fun ls' hl' => kk p e s m args below meth c H locs ls' Z hC hR hS (zst_has (v := .null) hl') hF)
  | _ => exact hr.elim
theorem aw_istore {z : Nat} {x : Int32} (hd : decode M.2.1 pc = .ok (.istore z, 2)) (hn : pc + 2 = pc') (hi : z < M.2.2.1) (kk : AW l G M d mc ms Q k n h (zst lv z (.int x)) st pc') : AW l G M d mc ms Q k n h lv (.int x :: st) pc := by
  intro p e s m args below meth c H locs ls Z hC hR hS hl hF
  have hx := hC.1
  have hb := hC.2.1
  subst hn
  exact lv_istore hx hb hd hl hi rfl (fun ls' hl' => kk p e s m args below meth c H locs ls' Z hC hR hS (zst_has hl') hF)
theorem aw_lstore {z : Nat} {x : Int64} (hd : decode M.2.1 pc = .ok (.lstore z, 2)) (hn : pc + 2 = pc') (hi : z + 1 < M.2.2.1) (kk : AW l G M d mc ms Q k n h (zst2 lv z (.long x)) st pc') : AW l G M d mc ms Q k n h lv (.long x :: st) pc := by
  intro p e s m args below meth c H locs ls Z hC hR hS hl hF
  have hx := hC.1
  have hb := hC.2.1
  subst hn
  exact lv_lstore hx hb hd hl hi rfl (fun ls' hl' => kk p e s m args below meth c H locs ls' Z hC hR hS (zst2_has hl') hF)
theorem aw_astore {z : Nat} {v : Value} (hd : decode M.2.1 pc = .ok (.astore z, 2)) (hn : pc + 2 = pc') (hi : z < M.2.2.1) (hr : zisr v) (kk : AW l G M d mc ms Q k n h (zst lv z v) st pc') : AW l G M d mc ms Q k n h lv (v :: st) pc := by
  intro p e s m args below meth c H locs ls Z hC hR hS hl hF
  have hx := hC.1
  have hb := hC.2.1
  subst hn
  cases v with
  | ref a => exact lv_astore hx hb hd hl hi rfl (fun ls' hl' => kk p e s m args below meth c H locs ls' Z hC hR hS (zst_has (v := .ref a) hl') hF)
  | null => exact lv_astoreN hx hb hd hl hi rfl (fun ls' hl' => kk p e s m args below meth c H locs ls' Z hC hR hS (zst_has (v := .null) hl') hF)
  | _ => exact hr.elim
theorem aw_iinc {i : Nat} {z : Int} {x v : Int32} (hd : decode M.2.1 pc = .ok (.iinc i z, 3)) (hn : pc + 3 = pc') (hx0 : lv[i]? = some (some (.int x))) (hv : x + Int32.ofInt z = v) (hi : i < M.2.2.1) (kk : AW l G M d mc ms Q k n h (zst lv i (.int v)) st pc') : AW l G M d mc ms Q k n h lv st pc := by
  intro p e s m args below meth c H locs ls Z hC hR hS hl hF
  have hx := hC.1
  have hb := hC.2.1
  subst hn
  have hm := zlv_mem (G := G) lv 0 i _ hx0
  rw [Nat.zero_add] at hm
  obtain ⟨k9, hk9⟩ := List.getElem?_of_mem hm
  exact lv_iinc hx hb hd hl hk9 hv hi rfl (fun ls' hl' => kk p e s m args below meth c H locs ls' Z hC hR hS (zst_has hl') hF)
theorem aw_iadd {x y : Int32} (hd : decode M.2.1 pc = .ok (.iadd, 1)) (hn : pc + 1 = pc')  (kk : AW l G M d mc ms Q k n h lv (.int (x + y) :: st) pc') : AW l G M d mc ms Q k n h lv (.int y :: .int x :: st) pc := by
  intro p e s m args below meth c H locs ls Z hC hR hS hl hF
  have hx := hC.1
  have hb := hC.2.1
  subst hn
  exact lv_iadd hx hb hd (kk p e s m args below meth c H locs ls Z hC hR hS hl hF)
theorem aw_isub {x y : Int32} (hd : decode M.2.1 pc = .ok (.isub, 1)) (hn : pc + 1 = pc')  (kk : AW l G M d mc ms Q k n h lv (.int (x - y) :: st) pc') : AW l G M d mc ms Q k n h lv (.int y :: .int x :: st) pc := by
  intro p e s m args below meth c H locs ls Z hC hR hS hl hF
  have hx := hC.1
  have hb := hC.2.1
  subst hn
  exact lv_isub hx hb hd (kk p e s m args below meth c H locs ls Z hC hR hS hl hF)
theorem aw_imul {x y : Int32} (hd : decode M.2.1 pc = .ok (.imul, 1)) (hn : pc + 1 = pc')  (kk : AW l G M d mc ms Q k n h lv (.int (x * y) :: st) pc') : AW l G M d mc ms Q k n h lv (.int y :: .int x :: st) pc := by
  intro p e s m args below meth c H locs ls Z hC hR hS hl hF
  have hx := hC.1
  have hb := hC.2.1
  subst hn
  exact lv_imul hx hb hd (kk p e s m args below meth c H locs ls Z hC hR hS hl hF)
theorem aw_iand {x y : Int32} (hd : decode M.2.1 pc = .ok (.iand, 1)) (hn : pc + 1 = pc')  (kk : AW l G M d mc ms Q k n h lv (.int (x &&& y) :: st) pc') : AW l G M d mc ms Q k n h lv (.int y :: .int x :: st) pc := by
  intro p e s m args below meth c H locs ls Z hC hR hS hl hF
  have hx := hC.1
  have hb := hC.2.1
  subst hn
  exact lv_iand hx hb hd (kk p e s m args below meth c H locs ls Z hC hR hS hl hF)
theorem aw_ior {x y : Int32} (hd : decode M.2.1 pc = .ok (.ior, 1)) (hn : pc + 1 = pc')  (kk : AW l G M d mc ms Q k n h lv (.int (x ||| y) :: st) pc') : AW l G M d mc ms Q k n h lv (.int y :: .int x :: st) pc := by
  intro p e s m args below meth c H locs ls Z hC hR hS hl hF
  have hx := hC.1
  have hb := hC.2.1
  subst hn
  exact lv_ior hx hb hd (kk p e s m args below meth c H locs ls Z hC hR hS hl hF)
theorem aw_ixor {x y : Int32} (hd : decode M.2.1 pc = .ok (.ixor, 1)) (hn : pc + 1 = pc')  (kk : AW l G M d mc ms Q k n h lv (.int (x ^^^ y) :: st) pc') : AW l G M d mc ms Q k n h lv (.int y :: .int x :: st) pc := by
  intro p e s m args below meth c H locs ls Z hC hR hS hl hF
  have hx := hC.1
  have hb := hC.2.1
  subst hn
  exact lv_ixor hx hb hd (kk p e s m args below meth c H locs ls Z hC hR hS hl hF)
theorem aw_ishl {x y : Int32} (hd : decode M.2.1 pc = .ok (.ishl, 1)) (hn : pc + 1 = pc')  (kk : AW l G M d mc ms Q k n h lv (.int (x <<< (y &&& 31)) :: st) pc') : AW l G M d mc ms Q k n h lv (.int y :: .int x :: st) pc := by
  intro p e s m args below meth c H locs ls Z hC hR hS hl hF
  have hx := hC.1
  have hb := hC.2.1
  subst hn
  exact lv_ishl hx hb hd (kk p e s m args below meth c H locs ls Z hC hR hS hl hF)
theorem aw_ishr {x y : Int32} (hd : decode M.2.1 pc = .ok (.ishr, 1)) (hn : pc + 1 = pc')  (kk : AW l G M d mc ms Q k n h lv (.int (x >>> (y &&& 31)) :: st) pc') : AW l G M d mc ms Q k n h lv (.int y :: .int x :: st) pc := by
  intro p e s m args below meth c H locs ls Z hC hR hS hl hF
  have hx := hC.1
  have hb := hC.2.1
  subst hn
  exact lv_ishr hx hb hd (kk p e s m args below meth c H locs ls Z hC hR hS hl hF)
theorem aw_idiv {x y : Int32} (hd : decode M.2.1 pc = .ok (.idiv, 1)) (hn : pc + 1 = pc') (hne : ¬ y = 0) (kk : AW l G M d mc ms Q k n h lv (.int (x / y) :: st) pc') : AW l G M d mc ms Q k n h lv (.int y :: .int x :: st) pc := by
  intro p e s m args below meth c H locs ls Z hC hR hS hl hF
  have hx := hC.1
  have hb := hC.2.1
  subst hn
  exact lv_idiv hx hb hd hne (kk p e s m args below meth c H locs ls Z hC hR hS hl hF)
theorem aw_irem {x y : Int32} (hd : decode M.2.1 pc = .ok (.irem, 1)) (hn : pc + 1 = pc') (hne : ¬ y = 0) (kk : AW l G M d mc ms Q k n h lv (.int (x - x / y * y) :: st) pc') : AW l G M d mc ms Q k n h lv (.int y :: .int x :: st) pc := by
  intro p e s m args below meth c H locs ls Z hC hR hS hl hF
  have hx := hC.1
  have hb := hC.2.1
  subst hn
  exact lv_irem hx hb hd hne (kk p e s m args below meth c H locs ls Z hC hR hS hl hF)
theorem aw_ineg {x : Int32} (hd : decode M.2.1 pc = .ok (.ineg, 1)) (hn : pc + 1 = pc')  (kk : AW l G M d mc ms Q k n h lv (.int (-x) :: st) pc') : AW l G M d mc ms Q k n h lv (.int x :: st) pc := by
  intro p e s m args below meth c H locs ls Z hC hR hS hl hF
  have hx := hC.1
  have hb := hC.2.1
  subst hn
  exact lv_ineg hx hb hd (kk p e s m args below meth c H locs ls Z hC hR hS hl hF)
theorem aw_iushr {x y : Int32} (hd : decode M.2.1 pc = .ok (.iushr, 1)) (hn : pc + 1 = pc')  (kk : AW l G M d mc ms Q k n h lv (.int (x.toUInt32 >>> (y.toUInt32 &&& Int32.toUInt32 31)).toInt32 :: st) pc') : AW l G M d mc ms Q k n h lv (.int y :: .int x :: st) pc := by
  intro p e s m args below meth c H locs ls Z hC hR hS hl hF
  have hx := hC.1
  have hb := hC.2.1
  subst hn
  exact lv_iushr hx hb hd rfl (kk p e s m args below meth c H locs ls Z hC hR hS hl hF)
theorem aw_ladd {x y : Int64} (hd : decode M.2.1 pc = .ok (.ladd, 1)) (hn : pc + 1 = pc')  (kk : AW l G M d mc ms Q k n h lv (.long (x + y) :: st) pc') : AW l G M d mc ms Q k n h lv (.long y :: .long x :: st) pc := by
  intro p e s m args below meth c H locs ls Z hC hR hS hl hF
  have hx := hC.1
  have hb := hC.2.1
  subst hn
  exact lv_ladd hx hb hd (kk p e s m args below meth c H locs ls Z hC hR hS hl hF)
theorem aw_lsub {x y : Int64} (hd : decode M.2.1 pc = .ok (.lsub, 1)) (hn : pc + 1 = pc')  (kk : AW l G M d mc ms Q k n h lv (.long (x - y) :: st) pc') : AW l G M d mc ms Q k n h lv (.long y :: .long x :: st) pc := by
  intro p e s m args below meth c H locs ls Z hC hR hS hl hF
  have hx := hC.1
  have hb := hC.2.1
  subst hn
  exact lv_lsub hx hb hd (kk p e s m args below meth c H locs ls Z hC hR hS hl hF)
theorem aw_lmul {x y : Int64} (hd : decode M.2.1 pc = .ok (.lmul, 1)) (hn : pc + 1 = pc')  (kk : AW l G M d mc ms Q k n h lv (.long (x * y) :: st) pc') : AW l G M d mc ms Q k n h lv (.long y :: .long x :: st) pc := by
  intro p e s m args below meth c H locs ls Z hC hR hS hl hF
  have hx := hC.1
  have hb := hC.2.1
  subst hn
  exact lv_lmul hx hb hd (kk p e s m args below meth c H locs ls Z hC hR hS hl hF)
theorem aw_land {x y : Int64} (hd : decode M.2.1 pc = .ok (.land, 1)) (hn : pc + 1 = pc')  (kk : AW l G M d mc ms Q k n h lv (.long (x &&& y) :: st) pc') : AW l G M d mc ms Q k n h lv (.long y :: .long x :: st) pc := by
  intro p e s m args below meth c H locs ls Z hC hR hS hl hF
  have hx := hC.1
  have hb := hC.2.1
  subst hn
  exact lv_land hx hb hd (kk p e s m args below meth c H locs ls Z hC hR hS hl hF)
theorem aw_lor {x y : Int64} (hd : decode M.2.1 pc = .ok (.lor, 1)) (hn : pc + 1 = pc')  (kk : AW l G M d mc ms Q k n h lv (.long (x ||| y) :: st) pc') : AW l G M d mc ms Q k n h lv (.long y :: .long x :: st) pc := by
  intro p e s m args below meth c H locs ls Z hC hR hS hl hF
  have hx := hC.1
  have hb := hC.2.1
  subst hn
  exact lv_lor hx hb hd (kk p e s m args below meth c H locs ls Z hC hR hS hl hF)
theorem aw_lxor {x y : Int64} (hd : decode M.2.1 pc = .ok (.lxor, 1)) (hn : pc + 1 = pc')  (kk : AW l G M d mc ms Q k n h lv (.long (x ^^^ y) :: st) pc') : AW l G M d mc ms Q k n h lv (.long y :: .long x :: st) pc := by
  intro p e s m args below meth c H locs ls Z hC hR hS hl hF
  have hx := hC.1
  have hb := hC.2.1
  subst hn
  exact lv_lxor hx hb hd (kk p e s m args below meth c H locs ls Z hC hR hS hl hF)
theorem aw_ldiv {x y : Int64} (hd : decode M.2.1 pc = .ok (.ldiv, 1)) (hn : pc + 1 = pc') (hne : ¬ y = 0) (kk : AW l G M d mc ms Q k n h lv (.long (x / y) :: st) pc') : AW l G M d mc ms Q k n h lv (.long y :: .long x :: st) pc := by
  intro p e s m args below meth c H locs ls Z hC hR hS hl hF
  have hx := hC.1
  have hb := hC.2.1
  subst hn
  exact lv_ldiv hx hb hd hne (kk p e s m args below meth c H locs ls Z hC hR hS hl hF)
theorem aw_lrem {x y : Int64} (hd : decode M.2.1 pc = .ok (.lrem, 1)) (hn : pc + 1 = pc') (hne : ¬ y = 0) (kk : AW l G M d mc ms Q k n h lv (.long (x - x / y * y) :: st) pc') : AW l G M d mc ms Q k n h lv (.long y :: .long x :: st) pc := by
  intro p e s m args below meth c H locs ls Z hC hR hS hl hF
  have hx := hC.1
  have hb := hC.2.1
  subst hn
  exact lv_lrem hx hb hd hne (kk p e s m args below meth c H locs ls Z hC hR hS hl hF)
theorem aw_lshl {x : Int64} {y : Int32} (hd : decode M.2.1 pc = .ok (.lshl, 1)) (hn : pc + 1 = pc')  (kk : AW l G M d mc ms Q k n h lv (.long (x <<< (y.toInt64 &&& 63)) :: st) pc') : AW l G M d mc ms Q k n h lv (.int y :: .long x :: st) pc := by
  intro p e s m args below meth c H locs ls Z hC hR hS hl hF
  have hx := hC.1
  have hb := hC.2.1
  subst hn
  exact lv_lshl hx hb hd rfl (kk p e s m args below meth c H locs ls Z hC hR hS hl hF)
theorem aw_lcmp {x y : Int64} (hd : decode M.2.1 pc = .ok (.lcmp, 1)) (hn : pc + 1 = pc')  (kk : AW l G M d mc ms Q k n h lv (.int (lg_cmp x y) :: st) pc') : AW l G M d mc ms Q k n h lv (.long y :: .long x :: st) pc := by
  intro p e s m args below meth c H locs ls Z hC hR hS hl hF
  have hx := hC.1
  have hb := hC.2.1
  subst hn
  exact W.lcmp hx hb hd (kk p e s m args below meth c H locs ls Z hC hR hS hl hF)
theorem aw_i2l {x : Int32} (hd : decode M.2.1 pc = .ok (.i2l, 1)) (hn : pc + 1 = pc')  (kk : AW l G M d mc ms Q k n h lv (.long (x.toInt64) :: st) pc') : AW l G M d mc ms Q k n h lv (.int x :: st) pc := by
  intro p e s m args below meth c H locs ls Z hC hR hS hl hF
  have hx := hC.1
  have hb := hC.2.1
  subst hn
  exact lv_i2l hx hb hd rfl (kk p e s m args below meth c H locs ls Z hC hR hS hl hF)
theorem aw_l2i {x : Int64} (hd : decode M.2.1 pc = .ok (.l2i, 1)) (hn : pc + 1 = pc')  (kk : AW l G M d mc ms Q k n h lv (.int (x.toInt32) :: st) pc') : AW l G M d mc ms Q k n h lv (.long x :: st) pc := by
  intro p e s m args below meth c H locs ls Z hC hR hS hl hF
  have hx := hC.1
  have hb := hC.2.1
  subst hn
  exact lv_l2i hx hb hd rfl (kk p e s m args below meth c H locs ls Z hC hR hS hl hF)
theorem aw_i2b {x : Int32} (hd : decode M.2.1 pc = .ok (.i2b, 1)) (hn : pc + 1 = pc')  (kk : AW l G M d mc ms Q k n h lv (.int (x.toInt8.toInt32) :: st) pc') : AW l G M d mc ms Q k n h lv (.int x :: st) pc := by
  intro p e s m args below meth c H locs ls Z hC hR hS hl hF
  have hx := hC.1
  have hb := hC.2.1
  subst hn
  exact lv_i2b hx hb hd rfl (kk p e s m args below meth c H locs ls Z hC hR hS hl hF)
theorem aw_i2s {x : Int32} (hd : decode M.2.1 pc = .ok (.i2s, 1)) (hn : pc + 1 = pc')  (kk : AW l G M d mc ms Q k n h lv (.int (x.toInt16.toInt32) :: st) pc') : AW l G M d mc ms Q k n h lv (.int x :: st) pc := by
  intro p e s m args below meth c H locs ls Z hC hR hS hl hF
  have hx := hC.1
  have hb := hC.2.1
  subst hn
  exact lv_i2s hx hb hd rfl (kk p e s m args below meth c H locs ls Z hC hR hS hl hF)
theorem aw_i2c {x : Int32} (hd : decode M.2.1 pc = .ok (.i2c, 1)) (hn : pc + 1 = pc')  (kk : AW l G M d mc ms Q k n h lv (.int ((x.toUInt32 % 65536).toInt32) :: st) pc') : AW l G M d mc ms Q k n h lv (.int x :: st) pc := by
  intro p e s m args below meth c H locs ls Z hC hR hS hl hF
  have hx := hC.1
  have hb := hC.2.1
  subst hn
  exact lv_i2c hx hb hd rfl (kk p e s m args below meth c H locs ls Z hC hR hS hl hF)
theorem aw_dup {v : Value} (hd : decode M.2.1 pc = .ok (.dup, 1)) (hn : pc + 1 = pc') (hv : v.category = 1) (kk : AW l G M d mc ms Q k n h lv (v :: v :: st) pc') : AW l G M d mc ms Q k n h lv (v :: st) pc := by
  intro p e s m args below meth c H locs ls Z hC hR hS hl hF
  have hx := hC.1
  have hb := hC.2.1
  subst hn
  exact lv_dup hx hb hd (by rw [zV_cat]; exact hv) (kk p e s m args below meth c H locs ls Z hC hR hS hl hF)
theorem aw_dup_x1 {v w : Value} (hd : decode M.2.1 pc = .ok (.dup_x1, 1)) (hn : pc + 1 = pc') (hv : v.category = 1) (hw : w.category = 1) (kk : AW l G M d mc ms Q k n h lv (v :: w :: v :: st) pc') : AW l G M d mc ms Q k n h lv (v :: w :: st) pc := by
  intro p e s m args below meth c H locs ls Z hC hR hS hl hF
  have hx := hC.1
  have hb := hC.2.1
  subst hn
  exact lv_dup_x1 hx hb hd (by rw [zV_cat]; exact hv) (by rw [zV_cat]; exact hw) (kk p e s m args below meth c H locs ls Z hC hR hS hl hF)
theorem aw_dup_x2 {v w u : Value} (hd : decode M.2.1 pc = .ok (.dup_x2, 1)) (hn : pc + 1 = pc') (hv : v.category = 1) (hw : w.category = 1) (hu : u.category = 1) (kk : AW l G M d mc ms Q k n h lv (v :: w :: u :: v :: st) pc') : AW l G M d mc ms Q k n h lv (v :: w :: u :: st) pc := by
  intro p e s m args below meth c H locs ls Z hC hR hS hl hF
  have hx := hC.1
  have hb := hC.2.1
  subst hn
  exact lv_dup_x2 hx hb hd (by rw [zV_cat]; exact hv) (by rw [zV_cat]; exact hw) (by rw [zV_cat]; exact hu) (kk p e s m args below meth c H locs ls Z hC hR hS hl hF)
theorem aw_dup2 {v w : Value} (hd : decode M.2.1 pc = .ok (.dup2, 1)) (hn : pc + 1 = pc') (hv : v.category = 1) (hw : w.category = 1) (kk : AW l G M d mc ms Q k n h lv (v :: w :: v :: w :: st) pc') : AW l G M d mc ms Q k n h lv (v :: w :: st) pc := by
  intro p e s m args below meth c H locs ls Z hC hR hS hl hF
  have hx := hC.1
  have hb := hC.2.1
  subst hn
  exact lv_dup2_11 hx hb hd (by rw [zV_cat]; exact hv) (by rw [zV_cat]; exact hw) (kk p e s m args below meth c H locs ls Z hC hR hS hl hF)
theorem aw_pop {v : Value} (hd : decode M.2.1 pc = .ok (.pop, 1)) (hn : pc + 1 = pc') (hv : v.category = 1) (kk : AW l G M d mc ms Q k n h lv st pc') : AW l G M d mc ms Q k n h lv (v :: st) pc := by
  intro p e s m args below meth c H locs ls Z hC hR hS hl hF
  have hx := hC.1
  have hb := hC.2.1
  subst hn
  exact lv_pop hx hb hd (by rw [zV_cat]; exact hv) (kk p e s m args below meth c H locs ls Z hC hR hS hl hF)
theorem aw_if_eq {x : Int32} {off : Int} {tgt : Nat} (hd : decode M.2.1 pc = .ok (.ifCond .eq off, 3)) (hn : pc + 3 = pc') (ht : (pc : Int) + off = (tgt : Int)) (kt : x = 0 → AW l G M d mc ms Q k n h lv st tgt) (kf : ¬ x = 0 → AW l G M d mc ms Q k n h lv st pc') : AW l G M d mc ms Q k n h lv (.int x :: st) pc := by
  intro p e s m args below meth c H locs ls Z hC hR hS hl hF
  have hx := hC.1
  have hb := hC.2.1
  subst hn
  exact lv_if_eq hx hb hd ht (fun z => kt z p e s m args below meth c H locs ls Z hC hR hS hl hF) (fun z => kf z p e s m args below meth c H locs ls Z hC hR hS hl hF)
theorem aw_icmp_eq {x y : Int32} {off : Int} {tgt : Nat} (hd : decode M.2.1 pc = .ok (.if_icmp .eq off, 3)) (hn : pc + 3 = pc') (ht : (pc : Int) + off = (tgt : Int)) (kt : x = y → AW l G M d mc ms Q k n h lv st tgt) (kf : ¬ x = y → AW l G M d mc ms Q k n h lv st pc') : AW l G M d mc ms Q k n h lv (.int y :: .int x :: st) pc := by
  intro p e s m args below meth c H locs ls Z hC hR hS hl hF
  have hx := hC.1
  have hb := hC.2.1
  subst hn
  exact lv_icmp_eq hx hb hd ht (fun z => kt z p e s m args below meth c H locs ls Z hC hR hS hl hF) (fun z => kf z p e s m args below meth c H locs ls Z hC hR hS hl hF)
theorem aw_if_ne {x : Int32} {off : Int} {tgt : Nat} (hd : decode M.2.1 pc = .ok (.ifCond .ne off, 3)) (hn : pc + 3 = pc') (ht : (pc : Int) + off = (tgt : Int)) (kt : ¬ x = 0 → AW l G M d mc ms Q k n h lv st tgt) (kf : x = 0 → AW l G M d mc ms Q k n h lv st pc') : AW l G M d mc ms Q k n h lv (.int x :: st) pc := by
  intro p e s m args below meth c H locs ls Z hC hR hS hl hF
  have hx := hC.1
  have hb := hC.2.1
  subst hn
  exact lv_if_ne hx hb hd ht (fun z => kt z p e s m args below meth c H locs ls Z hC hR hS hl hF) (fun z => kf z p e s m args below meth c H locs ls Z hC hR hS hl hF)
theorem aw_icmp_ne {x y : Int32} {off : Int} {tgt : Nat} (hd : decode M.2.1 pc = .ok (.if_icmp .ne off, 3)) (hn : pc + 3 = pc') (ht : (pc : Int) + off = (tgt : Int)) (kt : ¬ x = y → AW l G M d mc ms Q k n h lv st tgt) (kf : x = y → AW l G M d mc ms Q k n h lv st pc') : AW l G M d mc ms Q k n h lv (.int y :: .int x :: st) pc := by
  intro p e s m args below meth c H locs ls Z hC hR hS hl hF
  have hx := hC.1
  have hb := hC.2.1
  subst hn
  exact lv_icmp_ne hx hb hd ht (fun z => kt z p e s m args below meth c H locs ls Z hC hR hS hl hF) (fun z => kf z p e s m args below meth c H locs ls Z hC hR hS hl hF)
theorem aw_if_lt {x : Int32} {off : Int} {tgt : Nat} (hd : decode M.2.1 pc = .ok (.ifCond .lt off, 3)) (hn : pc + 3 = pc') (ht : (pc : Int) + off = (tgt : Int)) (kt : x < 0 → AW l G M d mc ms Q k n h lv st tgt) (kf : ¬ x < 0 → AW l G M d mc ms Q k n h lv st pc') : AW l G M d mc ms Q k n h lv (.int x :: st) pc := by
  intro p e s m args below meth c H locs ls Z hC hR hS hl hF
  have hx := hC.1
  have hb := hC.2.1
  subst hn
  exact lv_if_lt hx hb hd ht (fun z => kt z p e s m args below meth c H locs ls Z hC hR hS hl hF) (fun z => kf z p e s m args below meth c H locs ls Z hC hR hS hl hF)
theorem aw_icmp_lt {x y : Int32} {off : Int} {tgt : Nat} (hd : decode M.2.1 pc = .ok (.if_icmp .lt off, 3)) (hn : pc + 3 = pc') (ht : (pc : Int) + off = (tgt : Int)) (kt : x < y → AW l G M d mc ms Q k n h lv st tgt) (kf : ¬ x < y → AW l G M d mc ms Q k n h lv st pc') : AW l G M d mc ms Q k n h lv (.int y :: .int x :: st) pc := by
  intro p e s m args below meth c H locs ls Z hC hR hS hl hF
  have hx := hC.1
  have hb := hC.2.1
  subst hn
  exact lv_icmp_lt hx hb hd ht (fun z => kt z p e s m args below meth c H locs ls Z hC hR hS hl hF) (fun z => kf z p e s m args below meth c H locs ls Z hC hR hS hl hF)
theorem aw_if_ge {x : Int32} {off : Int} {tgt : Nat} (hd : decode M.2.1 pc = .ok (.ifCond .ge off, 3)) (hn : pc + 3 = pc') (ht : (pc : Int) + off = (tgt : Int)) (kt : 0 ≤ x → AW l G M d mc ms Q k n h lv st tgt) (kf : ¬ 0 ≤ x → AW l G M d mc ms Q k n h lv st pc') : AW l G M d mc ms Q k n h lv (.int x :: st) pc := by
  intro p e s m args below meth c H locs ls Z hC hR hS hl hF
  have hx := hC.1
  have hb := hC.2.1
  subst hn
  exact lv_if_ge hx hb hd ht (fun z => kt z p e s m args below meth c H locs ls Z hC hR hS hl hF) (fun z => kf z p e s m args below meth c H locs ls Z hC hR hS hl hF)
theorem aw_icmp_ge {x y : Int32} {off : Int} {tgt : Nat} (hd : decode M.2.1 pc = .ok (.if_icmp .ge off, 3)) (hn : pc + 3 = pc') (ht : (pc : Int) + off = (tgt : Int)) (kt : y ≤ x → AW l G M d mc ms Q k n h lv st tgt) (kf : ¬ y ≤ x → AW l G M d mc ms Q k n h lv st pc') : AW l G M d mc ms Q k n h lv (.int y :: .int x :: st) pc := by
  intro p e s m args below meth c H locs ls Z hC hR hS hl hF
  have hx := hC.1
  have hb := hC.2.1
  subst hn
  exact lv_icmp_ge hx hb hd ht (fun z => kt z p e s m args below meth c H locs ls Z hC hR hS hl hF) (fun z => kf z p e s m args below meth c H locs ls Z hC hR hS hl hF)
theorem aw_if_gt {x : Int32} {off : Int} {tgt : Nat} (hd : decode M.2.1 pc = .ok (.ifCond .gt off, 3)) (hn : pc + 3 = pc') (ht : (pc : Int) + off = (tgt : Int)) (kt : 0 < x → AW l G M d mc ms Q k n h lv st tgt) (kf : ¬ 0 < x → AW l G M d mc ms Q k n h lv st pc') : AW l G M d mc ms Q k n h lv (.int x :: st) pc := by
  intro p e s m args below meth c H locs ls Z hC hR hS hl hF
  have hx := hC.1
  have hb := hC.2.1
  subst hn
  exact lv_if_gt hx hb hd ht (fun z => kt z p e s m args below meth c H locs ls Z hC hR hS hl hF) (fun z => kf z p e s m args below meth c H locs ls Z hC hR hS hl hF)
theorem aw_icmp_gt {x y : Int32} {off : Int} {tgt : Nat} (hd : decode M.2.1 pc = .ok (.if_icmp .gt off, 3)) (hn : pc + 3 = pc') (ht : (pc : Int) + off = (tgt : Int)) (kt : y < x → AW l G M d mc ms Q k n h lv st tgt) (kf : ¬ y < x → AW l G M d mc ms Q k n h lv st pc') : AW l G M d mc ms Q k n h lv (.int y :: .int x :: st) pc := by
  intro p e s m args below meth c H locs ls Z hC hR hS hl hF
  have hx := hC.1
  have hb := hC.2.1
  subst hn
  exact lv_icmp_gt hx hb hd ht (fun z => kt z p e s m args below meth c H locs ls Z hC hR hS hl hF) (fun z => kf z p e s m args below meth c H locs ls Z hC hR hS hl hF)
theorem aw_if_le {x : Int32} {off : Int} {tgt : Nat} (hd : decode M.2.1 pc = .ok (.ifCond .le off, 3)) (hn : pc + 3 = pc') (ht : (pc : Int) + off = (tgt : Int)) (kt : x ≤ 0 → AW l G M d mc ms Q k n h lv st tgt) (kf : ¬ x ≤ 0 → AW l G M d mc ms Q k n h lv st pc') : AW l G M d mc ms Q k n h lv (.int x :: st) pc := by
  intro p e s m args below meth c H locs ls Z hC hR hS hl hF
  have hx := hC.1
  have hb := hC.2.1
  subst hn
  exact lv_if_le hx hb hd ht (fun z => kt z p e s m args below meth c H locs ls Z hC hR hS hl hF) (fun z => kf z p e s m args below meth c H locs ls Z hC hR hS hl hF)
theorem aw_icmp_le {x y : Int32} {off : Int} {tgt : Nat} (hd : decode M.2.1 pc = .ok (.if_icmp .le off, 3)) (hn : pc + 3 = pc') (ht : (pc : Int) + off = (tgt : Int)) (kt : x ≤ y → AW l G M d mc ms Q k n h lv st tgt) (kf : ¬ x ≤ y → AW l G M d mc ms Q k n h lv st pc') : AW l G M d mc ms Q k n h lv (.int y :: .int x :: st) pc := by
  intro p e s m args below meth c H locs ls Z hC hR hS hl hF
  have hx := hC.1
  have hb := hC.2.1
  subst hn
  exact lv_icmp_le hx hb hd ht (fun z => kt z p e s m args below meth c H locs ls Z hC hR hS hl hF) (fun z => kf z p e s m args below meth c H locs ls Z hC hR hS hl hF)
theorem aw_goto {off : Int} {tgt : Nat} (hd : decode M.2.1 pc = .ok (.goto off, 3)) (ht : (pc : Int) + off = (tgt : Int)) (kk : AW l G M d mc ms Q k n h lv st tgt) : AW l G M d mc ms Q k n h lv st pc := by
  intro p e s m args below meth c H locs ls Z hC hR hS hl hF
  have hx := hC.1
  have hb := hC.2.1
  exact lv_goto hx hb hd ht (kk p e s m args below meth c H locs ls Z hC hR hS hl hF)
theorem aw_ifnonnull {v : Value} {off : Int} {tgt : Nat} (hd : decode M.2.1 pc = .ok (.ifnonnull off, 3)) (hn : pc + 3 = pc') (ht : (pc : Int) + off = (tgt : Int)) (hr : zisr v) (kt : v ≠ .null → AW l G M d mc ms Q k n h lv st tgt) (kf : v = .null → AW l G M d mc ms Q k n h lv st pc') : AW l G M d mc ms Q k n h lv (v :: st) pc := by
  intro p e s m args below meth c H locs ls Z hC hR hS hl hF
  have hx := hC.1
  have hb := hC.2.1
  subst hn
  cases v with
  | ref a => exact lv_ifnonnull hx hb hd ht (kt (fun z => by cases z) p e s m args below meth c H locs ls Z hC hR hS hl hF)
  | null => exact lv_ifnonnullN hx hb hd (kf rfl p e s m args below meth c H locs ls Z hC hR hS hl hF)
  | _ => exact hr.elim
theorem aw_ifnull {v : Value} {off : Int} {tgt : Nat} (hd : decode M.2.1 pc = .ok (.ifnull off, 3)) (hn : pc + 3 = pc') (ht : (pc : Int) + off = (tgt : Int)) (hr : zisr v) (kt : v = .null → AW l G M d mc ms Q k n h lv st tgt) (kf : v ≠ .null → AW l G M d mc ms Q k n h lv st pc') : AW l G M d mc ms Q k n h lv (v :: st) pc := by
  intro p e s m args below meth c H locs ls Z hC hR hS hl hF
  have hx := hC.1
  have hb := hC.2.1
  subst hn
  cases v with
  | ref a => exact lv_ifnull hx hb hd (kf (fun z => by cases z) p e s m args below meth c H locs ls Z hC hR hS hl hF)
  | null => exact lv_ifnullN hx hb hd ht (kt rfl p e s m args below meth c H locs ls Z hC hR hS hl hF)
  | _ => exact hr.elim
theorem aw_tsw {x v : Int32} {dflt lo hi off : Int} {offs : Array Int} {len tgt : Nat} (hd : decode M.2.1 pc = .ok (.tableswitch dflt lo hi offs, len)) (h1 : ¬ v.toInt < lo) (h2 : ¬ hi < v.toInt) (ho : offs[(v.toInt - lo).toNat]? = some off) (ht : (pc : Int) + off = (tgt : Int)) (kt : x = v → AW l G M d mc ms Q k n h lv st tgt) (kf : ¬ x = v → AW l G M d mc ms Q k n h lv (.int x :: st) pc) : AW l G M d mc ms Q k n h lv (.int x :: st) pc := by
  intro p e s m args below meth c H locs ls Z hC hR hS hl hF
  have hx := hC.1
  have hb := hC.2.1
  by_cases z : x = v
  · exact lv_tableIn hx hb hd (by rw [z]; exact h1) (by rw [z]; exact h2) (by rw [z]; exact ho) ht (kt z p e s m args below meth c H locs ls Z hC hR hS hl hF)
  · exact kf z p e s m args below meth c H locs ls Z hC hR hS hl hF
theorem aw_tswo {x : Int32} {dflt lo hi : Int} {offs : Array Int} {len tgt : Nat} (hd : decode M.2.1 pc = .ok (.tableswitch dflt lo hi offs, len)) (h1 : x.toInt < lo ∨ hi < x.toInt) (ht : (pc : Int) + dflt = (tgt : Int)) (kk : AW l G M d mc ms Q k n h lv st tgt) : AW l G M d mc ms Q k n h lv (.int x :: st) pc := by
  intro p e s m args below meth c H locs ls Z hC hR hS hl hF
  have hx := hC.1
  have hb := hC.2.1
  exact lv_tableOut hx hb hd h1 ht (kk p e s m args below meth c H locs ls Z hC hR hS hl hF)
theorem aw_lsw {x v : Int32} {dflt off : Int} {ps : Array (Int × Int)} {len tgt : Nat} (hd : decode M.2.1 pc = .ok (.lookupswitch dflt ps, len)) (hp : (ps.toList.zip (ps.toList.drop 1)).all (fun (a, next) => a.1 < next.1) = true) (ho : Op.lookupswitch.offset ps.toList dflt v.toInt = off) (ht : (pc : Int) + off = (tgt : Int)) (kt : x = v → AW l G M d mc ms Q k n h lv st tgt) (kf : ¬ x = v → AW l G M d mc ms Q k n h lv (.int x :: st) pc) : AW l G M d mc ms Q k n h lv (.int x :: st) pc := by
  intro p e s m args below meth c H locs ls Z hC hR hS hl hF
  have hx := hC.1
  have hb := hC.2.1
  by_cases z : x = v
  · exact lv_lookup hx hb hd hp (by rw [z]; exact ho) ht (kt z p e s m args below meth c H locs ls Z hC hR hS hl hF)
  · exact kf z p e s m args below meth c H locs ls Z hC hR hS hl hF
theorem aw_lswo {x : Int32} {dflt off : Int} {ps : Array (Int × Int)} {len tgt : Nat} (hd : decode M.2.1 pc = .ok (.lookupswitch dflt ps, len)) (hp : (ps.toList.zip (ps.toList.drop 1)).all (fun (a, next) => a.1 < next.1) = true) (ho : Op.lookupswitch.offset ps.toList dflt x.toInt = off) (ht : (pc : Int) + off = (tgt : Int)) (kk : AW l G M d mc ms Q k n h lv st tgt) : AW l G M d mc ms Q k n h lv (.int x :: st) pc := by
  intro p e s m args below meth c H locs ls Z hC hR hS hl hF
  have hx := hC.1
  have hb := hC.2.1
  exact lv_lookup hx hb hd hp ho ht (kk p e s m args below meth c H locs ls Z hC hR hS hl hF)
theorem zne {x v : Int32} {a : Int} (h : ¬ x = v) (hv : v.toInt = a) : ¬ x.toInt = a := lv_neT h hv
/-- more room than was needed -/
theorem aw_widen {k' n' : Nat} (h1 : k ≤ k') (h2 : n ≤ n') (kk : AW l G M d mc ms Q k' n' h lv st pc) : AW l G M d mc ms Q k n h lv st pc := by
  intro p e s m args below meth c H locs ls Z hC hR hS hl hF
  exact W.widen h1 h2 (kk p e s m args below meth c H locs ls Z hC hR hS hl hF)
/-- the end -/
theorem aw_ret {v : Option Value} {i : Instr} (hd : decode M.2.1 pc = .ok (i, 1)) (hz : zri v M.2.2.2.1 i) (h1 : k ≤ mc) (h2 : n ≤ ms) (hst : st = v.toList) (hq : Q v h) : AW l G M d mc ms Q k n h lv st pc := by
  intro p e s m args below meth c H locs ls Z hC hR hS hl hF
  have K := hF v h H locs pc ls i hq hR hS hd hz
  rw [hst, show v.toList.map (zV G) = (v.map (zV G)).toList by cases v <;> rfl]
  exact W.widen (k := mc) (n := ms) h1 h2 K
end ZR
end
section
/-! what a cell is, in total functions -/
def zoc (e : zE) : Nat := match e with
  | .inr (c, _) => c
  | _ => 1000
def zfs (e : zE) : List Value := match e with
  | .inr (_, fs) => fs
  | _ => []
def zak (e : zE) : Nat := match e with
  | .inl (k, _) => k
  | _ => 1000
def zal (e : zE) : Nat := match e with
  | .inl (_, (n, _)) => n
  | _ => 0
def zai (e : zE) : Nat → Int32 := match e with
  | .inl (_, (_, .inl f)) => f
  | _ => fun _ => 0
def zaj (e : zE) : Nat → Int64 := match e with
  | .inl (_, (_, .inr (.inl f))) => f
  | _ => fun _ => 0
def zaq (e : zE) : Nat → Option Nat := match e with
  | .inl (_, (_, .inr (.inr (.inr (.inr f))))) => f
  | _ => fun _ => none
/-- arrays of ints, bytes, chars; of longs; of references -/
def zIA (e : zE) (k : Nat) : Prop := e = .inl (k, (zal e, .inl (zai e)))
def zJA (e : zE) (k : Nat) : Prop := e = .inl (k, (zal e, .inr (.inl (zaj e))))
def zQA (e : zE) (k : Nat) : Prop := e = .inl (k, (zal e, .inr (.inr (.inr (.inr (zaq e))))))
def zOb (e : zE) (c N : Nat) : Prop := e = .inr (c, zfs e) ∧ (zfs e).length = N
def zfv (e : zE) (k : Nat) : Value := (zfs e).getD k .null
theorem zIA_i (k n : Nat) (f : Nat → Int32) : zIA (.inl (k, (n, .inl f))) k := rfl
theorem zJA_i (k n : Nat) (f : Nat → Int64) : zJA (.inl (k, (n, .inr (.inl f)))) k := rfl
theorem zQA_i (k n : Nat) (f : Nat → Option Nat) : zQA (.inl (k, (n, .inr (.inr (.inr (.inr f)))))) k := rfl
theorem zOb_i (c : Nat) (fs : List Value) : zOb (.inr (c, fs)) c fs.length := ⟨rfl, rfl⟩
section ZH
variable {l : Launch} {G : GT} {M : MT} {d mc ms k n pc pc' : Nat} {Q : Option Value → Hp → Prop} {h : Hp} {lv : LV} {st : List Value}
theorem zL_map {G : GT} {fs : List Value} {k : Nat} (hk : k < fs.length) : (fs.map (zV G))[k]? = some (zV G (fs.getD k .null)) := by
  rw [List.getElem?_map, List.getD_eq_getElem?_getD, List.getElem?_eq_getElem hk]
  rfl
theorem aw_getf {a ci kf N idx : Nat} {C : String} {T : u_T} (hd : decode M.2.1 pc = .ok (.getfield idx, 3)) (hn : pc + 3 = pc') (he : zOb (h.2 a) ci N) (hc : zcl[ci]? = some (C, T, N)) (hin : ∀ w ∈ u_ws C T N, w ∈ TB) (hk : kf < N) (hw : Cond.fieldLink M.1 idx (T kf).1 (T kf).2.1 (T kf).2.2.1 ∈ TB)
    (kk : AW l G M d mc ms Q k n h lv (zfv (h.2 a) kf :: st) pc') : AW l G M d mc ms Q k n h lv (.ref a :: st) pc := by
  intro p e s m args below meth c H locs ls Z hC hR hS hl hF
  have hx := hC.1
  have hb := hC.2.1
  subst hn
  obtain ⟨h16, hz⟩ := hR.obj he.1 hc
  have hP := hR.one h16 he.1 hz
  exact va_get (D := gD G) (ci := ci) (cl := zcl) hx hb hC.2.2.2.2.2.2.2.1 hin hC.2.2.2.2.2.2.1 hC.2.2.2.2.2.2.2.2.1.1 hP 0 (fs := (zfs (h.2 a)).map (zV G)) rfl hc kf hk (hC.2.2.2.2.2.2.2.1 _ hw) (fun _ h9 => h9) (zL_map (by rw [he.2]; exact hk)) hd (kk p e s m args below meth c H locs ls Z hC hR hS hl hF)
theorem aw_getN {a ci kf N idx : Nat} {C : String} {T : u_T} (hd : decode M.2.1 pc = .ok (.getfield idx, 3)) (hn : pc + 3 = pc') (he : zOb (h.2 a) ci N) (hc : zcl[ci]? = some (C, T, N)) (hin : ∀ w ∈ u_ws C T N, w ∈ TB) (hk : kf < N) (hM : M.1 = "AmberGrains") (hw : (idx, (T kf).1, (T kf).2.1, (T kf).2.2.1) ∈ znF)
    (kk : AW l G M d mc ms Q k n h lv (zfv (h.2 a) kf :: st) pc') : AW l G M d mc ms Q k n h lv (.ref a :: st) pc := by
  intro p e s m args below meth c H locs ls Z hC hR hS hl hF
  have hx := hC.1
  have hb := hC.2.1
  subst hn
  obtain ⟨h16, hz⟩ := hR.obj he.1 hc
  have hP := hR.one h16 he.1 hz
  have hw2 := hC.2.2.2.2.2.2.2.2.1.2.2.2.2.2.2.2.1 _ hw
  rw [← hM] at hw2
  exact va_getN (D := gD G) (ci := ci) (cl := zcl) hx hb hC.2.2.2.2.2.2.2.1 hin hC.2.2.2.2.2.2.1 hC.2.2.2.2.2.2.2.2.1.1 hP 0 (fs := (zfs (h.2 a)).map (zV G)) rfl hc kf hk (va_Nw.use rfl hw2) (fun _ h9 => h9) (zL_map (by rw [he.2]; exact hk)) hd (kk p e s m args below meth c H locs ls Z hC hR hS hl hF)
/-- what a field takes -/
def zfit (ty : FieldType) (v : Value) : Prop := match ty, v with
  | .int, .int _ => True
  | .boolean, .int x => x = 0 ∨ x = 1
  | .long, .long _ => True
  | .object _, .ref _ => True
  | .object _, .null => True
  | .array _, .ref _ => True
  | .array _, .null => True
  | _, _ => False
theorem zfit_n {ty : FieldType} {v : Value} (G : GT) (h : zfit ty v) : narrow ty (zV G v) = zV G v ∧ fits ty (zV G v) = true := by
  unfold zfit at h
  split at h
  · exact ⟨rfl, rfl⟩
  · rcases h with rfl | rfl <;> exact ⟨rfl, rfl⟩
  · exact ⟨rfl, rfl⟩
  · exact ⟨rfl, rfl⟩
  · exact ⟨rfl, rfl⟩
  · exact ⟨rfl, rfl⟩
  · exact ⟨rfl, rfl⟩
  · exact h.elim
def zsetf (e : zE) (k : Nat) (v : Value) : zE := .inr (zoc e, (zfs e).set k v)
theorem zputH {H H' : Heap} {a ci kf N : Nat} {C : String} {T : u_T} {v : Value} {cell : Cell} (hR : HR G h H) (he : zOb (h.2 a) ci N) (hc : zcl[ci]? = some (C, T, N)) (hk : kf < N) (hap : ∀ x y, x < N → y < N → x ≠ y → ((gD G).2 ci) x ≠ ((gD G).2 ci) y)
    (q2 : cell.cls = (gD G).1 ci) (q3 : cell.vm = .none) (q4 : ∀ k, k < N → cell.slots[(gD G).2 ci k]? = some (vp_V ((zfs (h.2 a)).map (zV G)) k)) (e1 : H'[zad G a]? = some (cell.setSlot ((gD G).2 ci kf) (zV G v))) (e2 : H'.size = H.size) (e3 : ∀ q, q ≠ zad G a → H'[q]? = H[q]?) : HR G (hset h a (zsetf (h.2 a) kf v)) H' := by
  obtain ⟨h16, hz⟩ := hR.obj he.1 hc
  refine hR.set h16 (by rw [he.1]; exact hz) ?_ e2 e3
  have hl : kf < ((zfs (h.2 a)).map (zV G)).length := by rw [List.length_map, he.2]; exact hk
  have hce : zoc (h.2 a) = ci := by rw [he.1]; rfl
  show ∃ r : vw_C, zcl[zoc (h.2 a)]? = some r ∧ t_OB (zad G a) ((gD G).1 (zoc (h.2 a))) r.2.2 ((gD G).2 (zoc (h.2 a))) H' (vp_V (((zfs (h.2 a)).set kf v).map (zV G)))
  rw [hce]
  refine ⟨_, hc, ?_⟩
  rw [show ((zfs (h.2 a)).set kf v).map (zV G) = ((zfs (h.2 a)).map (zV G)).set kf (zV G v) from List.map_set]
  exact t_OB.to (V := updV (vp_V ((zfs (h.2 a)).map (zV G))) kf (zV G v)) ⟨_, e1, q2, q3, t_set q4 hap hk (zV G v)⟩ (fun j _ => vp_updV_set hl (zV G v) j)
theorem aw_putf {a ci kf N idx : Nat} {C : String} {T : u_T} {ty0 : Nat → FieldType} {v : Value} (hd : decode M.2.1 pc = .ok (.putfield idx, 3)) (hn : pc + 3 = pc') (he : zOb (h.2 a) ci N) (hc : zcl[ci]? = some (C, T, N)) (hin : ∀ w ∈ u_ws C T N, w ∈ TB) (hty : ∀ k, k < N → parseFieldDescriptor (T k).2.2.1 = some (ty0 k)) (hnm : ∀ a, a < N → ∀ b, b < N → a ≠ b → (T a).2.1 ≠ (T b).2.1) (hk : kf < N) (hw : Cond.fieldLink M.1 idx (T kf).1 (T kf).2.1 (T kf).2.2.1 ∈ TB) (hfin : (T kf).2.2.2 = false) (hv : zfit (ty0 kf) v)
    (kk : AW l G M d mc ms Q k n (hset h a (zsetf (h.2 a) kf v)) lv st pc') : AW l G M d mc ms Q k n h lv (v :: .ref a :: st) pc := by
  intro p e s m args below meth c H locs ls Z hC hR hS hl hF
  have hx := hC.1
  have hb := hC.2.1
  subst hn
  obtain ⟨h16, hz⟩ := hR.obj he.1 hc
  have hts := hC.2.2.2.2.2.2.2.1
  have hown := hC.2.2.2.2.2.2.1
  have hK := hC.2.2.2.2.2.2.2.2.1.1
  have hap := va_apart (own := M.1) hts hin ty0 hty hnm hK hc
  have hA := hR.at h16 (by rw [he.1]; exact hz)
  rw [he.1] at hA
  obtain ⟨r, h1, cell, q1, q2, q3, q4⟩ := hA
  have hr : r = (C, T, N) := Option.some.inj (h1.symm.trans hc)
  subst hr
  obtain ⟨hSl, hfc, kC, hkC, hkind⟩ := hK.1 ci _ hc
  obtain ⟨cf, kf0, fi, f, hi, hsl⟩ := hSl kf hk
  have hlay := hts _ (hin _ (u_in_lay hk))
  unfold u_lay at hlay
  rw [if_neg (by rw [hfin]; decide)] at hlay
  have hst := (u_facts hfc hkC (u_lays hts hin hk) hi).1
  have h6 := u_store hfc hkC hkind hlay hi (hty kf hk) (zfit_n G hv).1 (zfit_n G hv).2
  refine W.putK hx hb (f := f) ⟨hown, hts _ hw, ⟨_, _, _, hi⟩, hst⟩ (by rw [q2]; exact h6) q1 q3 (by rw [hsl]; exact k2_hasslot (q4 kf hk)) rfl rfl hd fun H' e1 e2 e3 => ?_
  rw [hsl] at e1 ⊢
  exact kk p e s m args below meth c H' _ ls Z hC (zputH hR he hc hk hap q2 q3 q4 e1 e2 e3) (zS.put hS e2 e3 h16) hl hF
theorem aw_putF {a ci kf N idx : Nat} {C : String} {T : u_T} {ty0 : Nat → FieldType} {v : Value} (hd : decode M.2.1 pc = .ok (.putfield idx, 3)) (hn : pc + 3 = pc') (he : zOb (h.2 a) ci N) (hc : zcl[ci]? = some (C, T, N)) (hin : ∀ w ∈ u_ws C T N, w ∈ TB) (hty : ∀ k, k < N → parseFieldDescriptor (T k).2.2.1 = some (ty0 k)) (hnm : ∀ a, a < N → ∀ b, b < N → a ≠ b → (T a).2.1 ≠ (T b).2.1) (hk : kf < N) (hw : Cond.fieldLink M.1 idx (T kf).1 (T kf).2.1 (T kf).2.2.1 ∈ TB) (hfin : (T kf).2.2.2 = true) (hin2 : M.2.2.2.2 = true) (hdecl : (T kf).1 = M.1) (hv : zfit (ty0 kf) v)
    (kk : AW l G M d mc ms Q k n (hset h a (zsetf (h.2 a) kf v)) lv st pc') : AW l G M d mc ms Q k n h lv (v :: .ref a :: st) pc := by
  intro p e s m args below meth c H locs ls Z hC hR hS hl hF
  have hx := hC.1
  have hb := hC.2.1
  subst hn
  obtain ⟨h16, hz⟩ := hR.obj he.1 hc
  have hts := hC.2.2.2.2.2.2.2.1
  have hown := hC.2.2.2.2.2.2.1
  have hK := hC.2.2.2.2.2.2.2.2.1.1
  have hap := va_apart (own := M.1) hts hin ty0 hty hnm hK hc
  have hA := hR.at h16 (by rw [he.1]; exact hz)
  rw [he.1] at hA
  obtain ⟨r, h1, cell, q1, q2, q3, q4⟩ := hA
  have hr : r = (C, T, N) := Option.some.inj (h1.symm.trans hc)
  subst hr
  obtain ⟨hSl, hfc, kC, hkC, hkind⟩ := hK.1 ci _ hc
  obtain ⟨cf, kf0, fi, f, hi, hsl⟩ := hSl kf hk
  have hlay := hts _ (hin _ (u_in_lay hk))
  unfold u_lay at hlay
  rw [if_pos hfin] at hlay
  have hst := (u_facts hfc hkC (u_lays hts hin hk) hi).1
  have hcf : m.cls = cf := by
    obtain ⟨_, _, c', _, _, _, -, -, hf', -, -, -, hown2, -⟩ := Cond.laysFinal_spec hlay
    have e1 : c' = cf := by have := hi.symm.trans hf'; simp at this; exact this.1.symm
    rw [hdecl] at hown2
    rw [← e1]; exact Option.some.inj (hown.symm.trans hown2)
  have h6 := u_fits hfc hkC hkind (Or.inr hlay) hi (hty kf hk) (zfit_n G hv).1 (zfit_n G hv).2
  refine W.putFinK hx hb hown (hts _ hw) hi hst hcf (hC.2.2.2.2.2.1 hin2) (by rw [q2]; exact h6) q1 q3 (by rw [hsl]; exact k2_hasslot (q4 kf hk)) rfl rfl hd fun H' e1 e2 e3 => ?_
  rw [hsl] at e1 ⊢
  exact kk p e s m args below meth c H' _ ls Z hC (zputH hR he hc hk hap q2 q3 q4 e1 e2 e3) (zS.put hS e2 e3 h16) hl hF
theorem aw_putN {a ci kf N idx : Nat} {C : String} {T : u_T} {ty0 : Nat → FieldType} {v : Value} (hd : decode M.2.1 pc = .ok (.putfield idx, 3)) (hn : pc + 3 = pc') (he : zOb (h.2 a) ci N) (hc : zcl[ci]? = some (C, T, N)) (hin : ∀ w ∈ u_ws C T N, w ∈ TB) (hty : ∀ k, k < N → parseFieldDescriptor (T k).2.2.1 = some (ty0 k)) (hnm : ∀ a, a < N → ∀ b, b < N → a ≠ b → (T a).2.1 ≠ (T b).2.1) (hk : kf < N) (hM : M.1 = "AmberGrains") (hw : (idx, (T kf).1, (T kf).2.1, (T kf).2.2.1) ∈ znF) (hfin : (T kf).2.2.2 = false) (hv : zfit (ty0 kf) v)
    (kk : AW l G M d mc ms Q k n (hset h a (zsetf (h.2 a) kf v)) lv st pc') : AW l G M d mc ms Q k n h lv (v :: .ref a :: st) pc := by
  intro p e s m args below meth c H locs ls Z hC hR hS hl hF
  have hx := hC.1
  have hb := hC.2.1
  subst hn
  obtain ⟨h16, hz⟩ := hR.obj he.1 hc
  have hts := hC.2.2.2.2.2.2.2.1
  have hown := hC.2.2.2.2.2.2.1
  have hK := hC.2.2.2.2.2.2.2.2.1.1
  have hw2 := hC.2.2.2.2.2.2.2.2.1.2.2.2.2.2.2.2.1 _ hw
  rw [← hM] at hw2
  have hap := va_apart (own := M.1) hts hin ty0 hty hnm hK hc
  have hA := hR.at h16 (by rw [he.1]; exact hz)
  rw [he.1] at hA
  obtain ⟨r, h1, cell, q1, q2, q3, q4⟩ := hA
  have hr : r = (C, T, N) := Option.some.inj (h1.symm.trans hc)
  subst hr
  obtain ⟨hSl, hfc, kC, hkC, hkind⟩ := hK.1 ci _ hc
  obtain ⟨cf, kf0, fi, f, hi, hsl⟩ := hSl kf hk
  have hlay := hts _ (hin _ (u_in_lay hk))
  unfold u_lay at hlay
  rw [if_neg (by rw [hfin]; decide)] at hlay
  have hst := (u_facts hfc hkC (u_lays hts hin hk) hi).1
  have h6 := u_store hfc hkC hkind hlay hi (hty kf hk) (zfit_n G hv).1 (zfit_n G hv).2
  refine va_WputK hx hb (f := f) hown (va_Nw.use rfl hw2) hi hst (by rw [q2]; exact h6) q1 q3 (by rw [hsl]; exact k2_hasslot (q4 kf hk)) rfl rfl hd fun H' e1 e2 e3 => ?_
  rw [hsl] at e1 ⊢
  exact kk p e s m args below meth c H' _ ls Z hC (zputH hR he hc hk hap q2 q3 q4 e1 e2 e3) (zS.put hS e2 e3 h16) hl hF
theorem zlow_i {G : GT} {h : Hp} {H : Heap} (hR : HR G h H) {a k : Nat} (ha : a < 16) (he : zIA (h.2 a) k) {s : State} (hS : St G s s.heap) : va_T (ak k) (zad G a) (zal (h.2 a)) (fun j => .int (zai (h.2 a) j)) (zW G) s s.heap := by
  have h1 := hR.2.2.2 a ha
  rw [show zad G a = glo G a from if_pos ha]
  exact hS.2.1 a k _ _ ha (h1.symm.trans he)
theorem aw_gets {n1 d1 : String} {idx a : Nat} (hd : decode M.2.1 pc = .ok (.getstatic idx, 3)) (hn : pc + 3 = pc') (hs : (n1, d1, a) ∈ [("ABOVE", "[I", 1), ("BODIES", "[I", 2)]) (hw : Cond.fieldLink M.1 idx "AmberGrains$Voice" n1 d1 ∈ TB)
    (kk : AW l G M d mc ms Q k n h lv (.ref a :: st) pc') : AW l G M d mc ms Q k n h lv st pc := by
  intro p e s m args below meth c H locs ls Z hC hR hS hl hF
  have hx := hC.1
  have hb := hC.2.1
  subst hn
  have hSt := hC.2.2.2.2.2.2.2.2.1
  have K := kk p e s m args below meth c H locs ls Z hC hR hS hl hF
  rcases List.mem_cons.mp hs with e1 | hs
  · cases e1
    exact va_gets hx hb hSt.2.2.1 hS hC.2.2.2.2.2.2.1 (hC.2.2.2.2.2.2.2.1 _ hw) (fun _ h9 => h9) hd K
  · rcases List.mem_cons.mp hs with e1 | hs
    · cases e1
      exact va_gets hx hb hSt.2.2.2.1 hS hC.2.2.2.2.2.2.1 (hC.2.2.2.2.2.2.2.1 _ hw) (fun _ h9 => h9) hd K
    · cases hs
end ZH
end
section
section ZA
variable {l : Launch} {G : GT} {M : MT} {d mc ms k n pc pc' : Nat} {Q : Option Value → Hp → Prop} {h : Hp} {lv : LV} {st : List Value}
theorem gty {G : GT} : ∀ {k : Nat}, k < 5 → (gtys G)[k]? = some (gC G k, ak k)
  | 0, _ => rfl
  | 1, _ => rfl
  | 2, _ => rfl
  | 3, _ => rfl
  | 4, _ => rfl
  | k + 5, h => absurd h (by omega)
theorem zra {s : State} {G : GT} : ∀ (kd : Nat), kd < 4 → va_RA s (gC G kd) (ak kd) → s.vm.findClass ("[" ++ (ak kd).toString) = some (gC G kd)
  | 0, _, h => h
  | 1, _, h => h
  | 2, _, h => h
  | 3, _, h => h
  | k + 4, h5, _ => absurd h5 (by omega)
theorem HR.arr {G : GT} {h : Hp} {H : Heap} (hR : HR G h H) {a k : Nat} {x : vp_A} (h16 : 16 ≤ a) (he : h.2 a = .inl (k, x)) : H[zad G a]? = some (vp_cell (gC G k) (zA G x)) := by
  have h1 := hR.at h16 (by rw [he]; exact zinl)
  rw [he] at h1
  exact h1

theorem aw_iaload {a : Nat} {i : Int32} (hd : decode M.2.1 pc = .ok (.iaload, 1)) (hn : pc + 1 = pc') (he : zIA (h.2 a) 0) (hi : vp_in i (zal (h.2 a)))
    (kk : AW l G M d mc ms Q k n h lv (.int (zai (h.2 a) i.toNatClampNeg) :: st) pc') : AW l G M d mc ms Q k n h lv (.int i :: .ref a :: st) pc := by
  intro p e s m args below meth c H locs ls Z hC hR hS hl hF
  have hx := hC.1
  have hb := hC.2.1
  subst hn
  have hSt := hC.2.2.2.2.2.2.2.2.1
  have hK := hSt.1
  rcases Nat.lt_or_ge a 16 with h16 | h16
  · exact va_ti hx hb (zlow_i hR h16 he hSt) hS hi rfl hd (kk p e s m args below meth c H locs ls Z hC hR hS hl hF)
  · exact va_iald hx hb hK (hR.one h16 he zinl) 0 0 rfl (gty (by decide)) hi hd (kk p e s m args below meth c H locs ls Z hC hR hS hl hF)
theorem aw_baload {a : Nat} {i : Int32} (hd : decode M.2.1 pc = .ok (.baload, 1)) (hn : pc + 1 = pc') (he : zIA (h.2 a) 1) (hi : vp_in i (zal (h.2 a)))
    (kk : AW l G M d mc ms Q k n h lv (.int (zai (h.2 a) i.toNatClampNeg) :: st) pc') : AW l G M d mc ms Q k n h lv (.int i :: .ref a :: st) pc := by
  intro p e s m args below meth c H locs ls Z hC hR hS hl hF
  have hx := hC.1
  have hb := hC.2.1
  subst hn
  have hSt := hC.2.2.2.2.2.2.2.2.1
  have hK := hSt.1
  rcases Nat.lt_or_ge a 16 with h16 | h16
  · exact va_tb hx hb (zlow_i hR h16 he hSt) hS hi rfl hd (kk p e s m args below meth c H locs ls Z hC hR hS hl hF)
  · exact va_bald hx hb hK (hR.one h16 he zinl) 0 1 rfl (gty (by decide)) hi hd (kk p e s m args below meth c H locs ls Z hC hR hS hl hF)
theorem aw_caload {a : Nat} {i : Int32} (hd : decode M.2.1 pc = .ok (.caload, 1)) (hn : pc + 1 = pc') (h16 : 16 ≤ a) (he : zIA (h.2 a) 2) (hi : vp_in i (zal (h.2 a)))
    (kk : AW l G M d mc ms Q k n h lv (.int (zai (h.2 a) i.toNatClampNeg) :: st) pc') : AW l G M d mc ms Q k n h lv (.int i :: .ref a :: st) pc := by
  intro p e s m args below meth c H locs ls Z hC hR hS hl hF
  have hx := hC.1
  have hb := hC.2.1
  subst hn
  have hSt := hC.2.2.2.2.2.2.2.2.1
  have hK := hSt.1
  exact va_cald hx hb hK (hR.one h16 he zinl) 0 2 rfl (gty (by decide)) hi hd (kk p e s m args below meth c H locs ls Z hC hR hS hl hF)
theorem aw_laload {a : Nat} {i : Int32} (hd : decode M.2.1 pc = .ok (.laload, 1)) (hn : pc + 1 = pc') (h16 : 16 ≤ a) (he : zJA (h.2 a) 3) (hi : vp_in i (zal (h.2 a)))
    (kk : AW l G M d mc ms Q k n h lv (.long (zaj (h.2 a) i.toNatClampNeg) :: st) pc') : AW l G M d mc ms Q k n h lv (.int i :: .ref a :: st) pc := by
  intro p e s m args below meth c H locs ls Z hC hR hS hl hF
  have hx := hC.1
  have hb := hC.2.1
  subst hn
  have hSt := hC.2.2.2.2.2.2.2.2.1
  have hK := hSt.1
  exact va_lald hx hb hK (hR.one h16 he zinl) 0 3 rfl (gty (by decide)) hi hd (kk p e s m args below meth c H locs ls Z hC hR hS hl hF)
theorem aw_aaload {a r : Nat} {i : Int32} (hd : decode M.2.1 pc = .ok (.aaload, 1)) (hn : pc + 1 = pc') (h16 : 16 ≤ a) (he : zQA (h.2 a) 4) (hi : vp_in i (zal (h.2 a))) (hr : zaq (h.2 a) i.toNatClampNeg = some r)
    (kk : AW l G M d mc ms Q k n h lv (.ref r :: st) pc') : AW l G M d mc ms Q k n h lv (.int i :: .ref a :: st) pc := by
  intro p e s m args below meth c H locs ls Z hC hR hS hl hF
  have hx := hC.1
  have hb := hC.2.1
  subst hn
  have hSt := hC.2.2.2.2.2.2.2.2.1
  have hK := hSt.1
  have K := kk p e s m args below meth c H locs ls Z hC hR hS hl hF
  refine va_aldq (C := "AmberGrains$Tape") hx hb hK (hR.one h16 he zinl) 0 4 rfl (gty (by decide)) hi hd ?_
  show W p l e (rmd d mc ms) s m args below meth c H locs k n Z (F0 m (pc + 1) ls (va_rf ((zaq (h.2 a) i.toNatClampNeg).map (zad G)) :: st.map (zV G)))
  rw [hr]
  exact K
theorem aw_alen {a kd : Nat} (hd : decode M.2.1 pc = .ok (.arraylength, 1)) (hn : pc + 1 = pc') (h5 : kd < 5) (h16 : 16 ≤ a) (he : zak (h.2 a) = kd)
    (kk : AW l G M d mc ms Q k n h lv (.int (Int32.ofNat (zal (h.2 a))) :: st) pc') : AW l G M d mc ms Q k n h lv (.ref a :: st) pc := by
  intro p e s m args below meth c H locs ls Z hC hR hS hl hF
  have hx := hC.1
  have hb := hC.2.1
  subst hn
  have hSt := hC.2.2.2.2.2.2.2.2.1
  have hK := hSt.1
  have K := kk p e s m args below meth c H locs ls Z hC hR hS hl hF
  obtain ⟨x, hx2⟩ : ∃ x, h.2 a = .inl (kd, x) := by
    unfold zak at he
    split at he
    · rename_i k0 x0 hq
      subst he
      exact ⟨x0, hq⟩
    · omega
  exact va_alen hx hb hK (hR.one h16 hx2 zinl) 0 kd rfl (gty h5) (by rw [hx2]; rfl) hd K
theorem aw_alenL {a kd : Nat} (hd : decode M.2.1 pc = .ok (.arraylength, 1)) (hn : pc + 1 = pc') (h16 : a < 16) (he : zIA (h.2 a) kd)
    (kk : AW l G M d mc ms Q k n h lv (.int (Int32.ofNat (zal (h.2 a))) :: st) pc') : AW l G M d mc ms Q k n h lv (.ref a :: st) pc := by
  intro p e s m args below meth c H locs ls Z hC hR hS hl hF
  have hx := hC.1
  have hb := hC.2.1
  subst hn
  have hSt := hC.2.2.2.2.2.2.2.2.1
  have hK := hSt.1
  exact va_tlen hx hb (zlow_i hR h16 he hSt) hS rfl hd (kk p e s m args below meth c H locs ls Z hC hR hS hl hF)
def zseti (e : zE) (i : Nat) (x : Int32) : zE := .inl (zak e, (zal e, .inl (upd (zai e) i x)))
def zsetj (e : zE) (i : Nat) (x : Int64) : zE := .inl (zak e, (zal e, .inr (.inl (vp_updL (zaj e) i x))))
def zsetq (e : zE) (i : Nat) (x : Option Nat) : zE := .inl (zak e, (zal e, .inr (.inr (.inr (.inr (va_up (zaq e) i x))))))
theorem aw_iastore {a : Nat} {i x : Int32} (hd : decode M.2.1 pc = .ok (.iastore, 1)) (hn : pc + 1 = pc') (h16 : 16 ≤ a) (he : zIA (h.2 a) 0) (hi : vp_in i (zal (h.2 a)))
    (kk : AW l G M d mc ms Q k n (hset h a (zseti (h.2 a) i.toNatClampNeg x)) lv st pc') : AW l G M d mc ms Q k n h lv (.int x :: .int i :: .ref a :: st) pc := by
  intro p e s m args below meth c H locs ls Z hC hR hS hl hF
  have hx := hC.1
  have hb := hC.2.1
  subst hn
  have hSt := hC.2.2.2.2.2.2.2.2.1
  have hK := hSt.1
  have ha := hR.arr h16 he
  refine W.iast hx hb ha ((hK.2 0 _ (gty (by decide))).1 (zal (h.2 a)) (fun j => .int (zai (h.2 a) j))) (fun q => by cases q) (by show ¬ (i < 0 ∨ (arrV _ _ _).slots.size ≤ _); rw [arrV_size]; exact hi) rfl rfl hd fun H1 e1 z oq => ?_
  refine kk p e s m args below meth c H1 _ ls Z hC (hR.set h16 (by rw [he]; exact zinl) ?_ z oq) (zS.put hS z oq h16) hl hF
  show H1[zad G a]? = some (vp_cell (gC G (zak (h.2 a))) (zal (h.2 a), .inl (upd (zai (h.2 a)) i.toNatClampNeg x)))
  rw [show zak (h.2 a) = 0 by rw [he]; rfl, e1]
  show some ((vp_cell (gC G 0) (zal (h.2 a), .inl (zai (h.2 a)))).setSlot i.toNatClampNeg (.int x)) = _
  rw [vp_cell_i, vp_cell_i, arrV_store]
  congr 2
  funext q
  by_cases hq : q = i.toNatClampNeg
  · subst hq
    simp [updV, upd]
  · simp [updV, upd, hq]
theorem aw_bastore {a : Nat} {i x : Int32} (hd : decode M.2.1 pc = .ok (.bastore, 1)) (hn : pc + 1 = pc') (h16 : 16 ≤ a) (he : zIA (h.2 a) 1) (hi : vp_in i (zal (h.2 a)))
    (kk : AW l G M d mc ms Q k n (hset h a (zseti (h.2 a) i.toNatClampNeg (vp_nar .byte x))) lv st pc') : AW l G M d mc ms Q k n h lv (.int x :: .int i :: .ref a :: st) pc := by
  intro p e s m args below meth c H locs ls Z hC hR hS hl hF
  have hx := hC.1
  have hb := hC.2.1
  subst hn
  have hSt := hC.2.2.2.2.2.2.2.2.1
  have hK := hSt.1
  have ha := hR.arr h16 he
  refine W.bast hx hb ha ((hK.2 1 _ (gty (by decide))).1 (zal (h.2 a)) (fun j => .int (zai (h.2 a) j))) (fun q => by cases q) (by show ¬ (i < 0 ∨ (arrV _ _ _).slots.size ≤ _); rw [arrV_size]; exact hi) rfl rfl hd fun H1 e1 z oq => ?_
  refine kk p e s m args below meth c H1 _ ls Z hC (hR.set h16 (by rw [he]; exact zinl) ?_ z oq) (zS.put hS z oq h16) hl hF
  show H1[zad G a]? = some (vp_cell (gC G (zak (h.2 a))) (zal (h.2 a), .inl (upd (zai (h.2 a)) i.toNatClampNeg (vp_nar .byte x))))
  rw [show zak (h.2 a) = 1 by rw [he]; rfl, e1]
  show some ((vp_cell (gC G 1) (zal (h.2 a), .inl (zai (h.2 a)))).setSlot i.toNatClampNeg (.int (vp_nar .byte x))) = _
  rw [vp_cell_i, vp_cell_i, arrV_store]
  congr 2
  funext q
  by_cases hq : q = i.toNatClampNeg
  · subst hq
    simp [updV, upd]
  · simp [updV, upd, hq]
theorem aw_castore {a : Nat} {i x : Int32} (hd : decode M.2.1 pc = .ok (.castore, 1)) (hn : pc + 1 = pc') (h16 : 16 ≤ a) (he : zIA (h.2 a) 2) (hi : vp_in i (zal (h.2 a)))
    (kk : AW l G M d mc ms Q k n (hset h a (zseti (h.2 a) i.toNatClampNeg (vp_nar .char x))) lv st pc') : AW l G M d mc ms Q k n h lv (.int x :: .int i :: .ref a :: st) pc := by
  intro p e s m args below meth c H locs ls Z hC hR hS hl hF
  have hx := hC.1
  have hb := hC.2.1
  subst hn
  have hSt := hC.2.2.2.2.2.2.2.2.1
  have hK := hSt.1
  have ha := hR.arr h16 he
  refine W.cast hx hb ha ((hK.2 2 _ (gty (by decide))).1 (zal (h.2 a)) (fun j => .int (zai (h.2 a) j))) (fun q => by cases q) (by show ¬ (i < 0 ∨ (arrV _ _ _).slots.size ≤ _); rw [arrV_size]; exact hi) rfl rfl hd fun H1 e1 z oq => ?_
  refine kk p e s m args below meth c H1 _ ls Z hC (hR.set h16 (by rw [he]; exact zinl) ?_ z oq) (zS.put hS z oq h16) hl hF
  show H1[zad G a]? = some (vp_cell (gC G (zak (h.2 a))) (zal (h.2 a), .inl (upd (zai (h.2 a)) i.toNatClampNeg (vp_nar .char x))))
  rw [show zak (h.2 a) = 2 by rw [he]; rfl, e1]
  show some ((vp_cell (gC G 2) (zal (h.2 a), .inl (zai (h.2 a)))).setSlot i.toNatClampNeg (.int (vp_nar .char x))) = _
  rw [vp_cell_i, vp_cell_i, arrV_store]
  congr 2
  funext q
  by_cases hq : q = i.toNatClampNeg
  · subst hq
    simp [updV, upd]
  · simp [updV, upd, hq]
theorem aw_lastore {a : Nat} {i : Int32} {x : Int64} (hd : decode M.2.1 pc = .ok (.lastore, 1)) (hn : pc + 1 = pc') (h16 : 16 ≤ a) (he : zJA (h.2 a) 3) (hi : vp_in i (zal (h.2 a)))
    (kk : AW l G M d mc ms Q k n (hset h a (zsetj (h.2 a) i.toNatClampNeg x)) lv st pc') : AW l G M d mc ms Q k n h lv (.long x :: .int i :: .ref a :: st) pc := by
  intro p e s m args below meth c H locs ls Z hC hR hS hl hF
  have hx := hC.1
  have hb := hC.2.1
  subst hn
  have hSt := hC.2.2.2.2.2.2.2.2.1
  have hK := hSt.1
  have ha := hR.arr h16 he
  refine W.last hx hb ha ((hK.2 3 _ (gty (by decide))).1 (zal (h.2 a)) (fun j => .long (zaj (h.2 a) j))) (fun q => by cases q) (by show ¬ (i < 0 ∨ (arrV _ _ _).slots.size ≤ _); rw [arrV_size]; exact hi) rfl rfl hd fun H1 e1 z oq => ?_
  refine kk p e s m args below meth c H1 _ ls Z hC (hR.set h16 (by rw [he]; exact zinl) ?_ z oq) (zS.put hS z oq h16) hl hF
  show H1[zad G a]? = some (vp_cell (gC G (zak (h.2 a))) (zal (h.2 a), .inr (.inl (vp_updL (zaj (h.2 a)) i.toNatClampNeg x))))
  rw [show zak (h.2 a) = 3 by rw [he]; rfl, e1]
  show some ((vp_cell (gC G 3) (zal (h.2 a), .inr (.inl (zaj (h.2 a))))).setSlot i.toNatClampNeg (.long x)) = _
  rw [vp_cell_l, vp_cell_l, arrV_store]
  congr 2
  funext q
  by_cases hq : q = i.toNatClampNeg
  · subst hq
    simp [updV, vp_updL]
  · simp [updV, vp_updL, hq]
theorem aw_aastore {a b : Nat} {i : Int32} (hd : decode M.2.1 pc = .ok (.aastore, 1)) (hn : pc + 1 = pc') (h16 : 16 ≤ a) (he : zQA (h.2 a) 4) (hi : vp_in i (zal (h.2 a))) (hob : zOb (h.2 b) 3 3)
    (kk : AW l G M d mc ms Q k n (hset h a (zsetq (h.2 a) i.toNatClampNeg (some b))) lv st pc') : AW l G M d mc ms Q k n h lv (.ref b :: .int i :: .ref a :: st) pc := by
  intro p e s m args below meth c H locs ls Z hC hR hS hl hF
  have hx := hC.1
  have hb := hC.2.1
  subst hn
  have hSt := hC.2.2.2.2.2.2.2.2.1
  have hK := hSt.1
  have ha := hR.arr h16 he
  have hlt : i.toNatClampNeg < zal (h.2 a) := Nat.not_le.mp fun q => hi (Or.inr q)
  have h0 : ¬ i < 0 := fun q => hi (Or.inl q)
  obtain ⟨b16, hz⟩ := hR.obj hob.1 (q := (RX3, TX3, 3)) rfl
  have hB := hR.at b16 (by rw [hob.1]; exact hz)
  rw [hob.1] at hB
  obtain ⟨r', hr', cellV, g1, g2, g3, -⟩ := hB
  have hcls := (hK.1 3 (RX3, TX3, 3) rfl).2
  obtain ⟨kA, comp, k1, k2, k3, -⟩ := (hK.2 4 _ (gty (by decide))).2
  have hcomp : comp = (gD G).1 3 := Option.some.inj (k3.symm.trans hcls.1)
  subst hcomp
  obtain ⟨kC, hkC, -⟩ := hcls.2
  refine W.aast hx hb ha (fun q h => by cases h) (fun h => by cases h) k1 k2 rfl hkC ⟨h0, by show _ < (arrV _ _ _).slots.size; rw [arrV_size]; exact hlt⟩ g1 (fun q h => by rw [g3] at h; cases h) (by rw [g2]; exact hkC) (by rw [g2]; exact va_assign hcls) rfl rfl hd fun H1 e1 z oq => ?_
  refine kk p e s m args below meth c H1 _ ls Z hC (hR.set h16 (by rw [he]; exact zinl) ?_ z oq) (zS.put hS z oq h16) hl hF
  show H1[zad G a]? = some (vp_cell (gC G (zak (h.2 a))) (zal (h.2 a), .inr (.inr (.inr (.inr (fun j => (va_up (zaq (h.2 a)) i.toNatClampNeg (some b) j).map (zad G)))))))
  rw [show zak (h.2 a) = 4 by rw [he]; rfl, e1]
  show some ((vp_cell (gC G 4) (zal (h.2 a), .inr (.inr (.inr (.inr (fun j => (zaq (h.2 a) j).map (zad G))))))).setSlot i.toNatClampNeg (.ref (zad G b))) = _
  rw [vp_cell_q, vp_cell_q, arrV_store]
  congr 2
  funext q
  by_cases hq : q = i.toNatClampNeg
  · subst hq
    simp [updV, va_up, va_rf]
  · simp [updV, va_up, hq]
/-- new cells -/
theorem aw_new {ci N idx : Nat} {C : String} {T : u_T} {ty0 : Nat → FieldType} {fs : List Value} (hd : decode M.2.1 pc = .ok (.new idx, 3)) (hn : pc + 3 = pc') (hc : zcl[ci]? = some (C, T, N)) (hin : ∀ w ∈ u_ws C T N, w ∈ TB) (hty : ∀ k, k < N → parseFieldDescriptor (T k).2.2.1 = some (ty0 k)) (hcl : Cond.classLink M.1 idx C ∈ TB) (hinst : Cond.instantiable C N ∈ TB) (hini : Cond.initialized C ∈ TB) (hfs : ∀ j, j < N → defaultValue (ty0 j) = vp_V fs j) (hf0 : ∀ G : GT, fs.map (zV G) = fs) (hk : k + 1 ≤ mc) (hm : n + N ≤ ms)
    (kk : AW l G M d mc ms Q (k + 1) (n + N) (hnew h (.inr (ci, fs))) lv (.ref (h.1 + 16) :: st) pc') : AW l G M d mc ms Q k n h lv st pc := by
  intro p e s m args below meth c H locs ls Z hC hR hS hl hF
  have hx := hC.1
  have hb := hC.2.1
  subst hn
  have hSt := hC.2.2.2.2.2.2.2.2.1
  have hK := hSt.1
  have hts := hC.2.2.2.2.2.2.2.1
  have hKn := hK.1 ci _ hc
  refine W.newcK hx hb hC.2.2.2.2.2.2.1 (hts _ hcl) (hts _ hinst) (hts _ hini) rfl hd hk hm hKn.2.1 rfl fun H1 kC hkC e1 z1 o1 => ?_
  have K := kk p e s m args below meth c H1 locs ls Z hC (hR.new (e := .inr (ci, fs)) (by
    refine ⟨_, hc, ?_⟩
    have hb2 := u_born ty0 hts hin hKn hkC e1 hty
    rw [show (fs.map (zV G)) = fs from hf0 G]
    exact hb2.to hfs) z1 o1) (zS.new hS z1 o1) hl hF
  rw [List.map_cons, ← hR.nad] at K
  exact K
theorem aw_newa {kd : Nat} {at_ : ArrayType} {i : Int32} {N' : Nat} {x : vp_A} (hd : decode M.2.1 pc = .ok (.newarray at_, 2)) (hn : pc + 2 = pc') (hw : Cond.arrayClass (newarray.typeOf at_) ∈ TB) (h5 : kd < 4) (hty : newarray.typeOf at_ = ak kd) (ha : ∀ cA : ClassId, vp_cell cA x = arrV cA N' (fun _ => defaultValue (ak kd))) (hx0 : ∀ G : GT, zA G x = x) (hi : ¬ i < 0) (hN : i.toNatClampNeg = N') (hbytes : N' * componentBytes (ak kd) ≤ 536870912) (hk : k + 1 ≤ mc) (hm : n + N' ≤ ms)
    (kk : AW l G M d mc ms Q (k + 1) (n + N') (hnew h (.inl (kd, x))) lv (.ref (h.1 + 16) :: st) pc') : AW l G M d mc ms Q k n h lv (.int i :: st) pc := by
  intro p e s m args below meth c H locs ls Z hC hR hS hl hF
  have hx := hC.1
  have hb := hC.2.1
  subst hn
  have hSt := hC.2.2.2.2.2.2.2.2.1
  have hK := hSt.1
  have hts := hC.2.2.2.2.2.2.2.1
  have hcA := zra kd h5 (hK.2 kd _ (gty (by omega))).2
  refine va_newaK hx hb (hts _ hw) rfl hd rfl hi hN (by rw [hty]; exact hbytes) hk hm rfl fun H1 cA e1 z1 o1 hAr hNm => ?_
  rw [hty] at e1 hNm
  have hc2 : cA = gC G kd := Option.some.inj (hNm.symm.trans hcA)
  subst hc2
  have K := kk p e s m args below meth c H1 locs ls Z hC (hR.new (e := .inl (kd, x)) (by
    show H1[H.size]? = some (vp_cell (gC G kd) (zA G x))
    rw [hx0, ha]
    exact e1) z1 o1) (zS.new hS z1 o1) hl hF
  rw [List.map_cons, ← hR.nad] at K
  exact K
theorem aw_anew {idx : Nat} {i : Int32} {N' : Nat} (hd : decode M.2.1 pc = .ok (.anewarray idx, 3)) (hn : pc + 3 = pc') (hcl : Cond.classLink M.1 idx "AmberGrains$Tape" ∈ TB) (hi : ¬ i < 0) (hN : i.toNatClampNeg = N') (hbytes : N' * 4 ≤ 536870912) (hk : k + 1 ≤ mc) (hm : n + N' ≤ ms)
    (kk : AW l G M d mc ms Q (k + 1) (n + N') (hnew h (.inl (4, (N', .inr (.inr (.inr (.inr (fun _ => none)))))))) lv (.ref (h.1 + 16) :: st) pc') : AW l G M d mc ms Q k n h lv (.int i :: st) pc := by
  intro p e s m args below meth c H locs ls Z hC hR hS hl hF
  have hx := hC.1
  have hb := hC.2.1
  subst hn
  have hSt := hC.2.2.2.2.2.2.2.2.1
  have hK := hSt.1
  have hts := hC.2.2.2.2.2.2.2.1
  subst hN
  obtain ⟨kA0, comp0, k1, k2, k3, k4⟩ := (hK.2 4 _ (gty (by decide))).2
  refine W.anew hx hb hC.2.2.2.2.2.2.1 (hts _ hcl) (va_AO.use hSt.2.2.2.2.2.2.2.2.2) rfl hd rfl hi hbytes hk hm fun cA kA comp f1 f2 f3 f4 => ?_
  have hc2 : cA = gC G 4 := Option.some.inj (f1.symm.trans k4)
  subst hc2
  generalize hH1 : H.push ({ cls := gC G 4, slots := Array.replicate i.toNatClampNeg .null, vm := .none } : Cell) = H1
  have z1 : H1.size = H.size + 1 := by rw [← hH1, Array.size_push]
  have e1 : H1[H.size]? = some (arrV (gC G 4) i.toNatClampNeg (fun _ => .null)) := by rw [← hH1, Array.getElem?_push_size, ← arrV_new]
  have o1 : ∀ q : Nat, q < H.size → H1[q]? = H[q]? := fun q hq => by rw [← hH1, Array.getElem?_push, if_neg (Nat.ne_of_lt hq)]
  have K := kk p e s m args below meth c H1 locs ls Z hC (hR.new (e := .inl (4, (i.toNatClampNeg, .inr (.inr (.inr (.inr (fun _ => none))))))) (by
    show H1[H.size]? = some (vp_cell (gC G 4) _)
    exact e1) z1 o1) (zS.new hS z1 o1) hl hF
  rw [List.map_cons, ← hR.nad] at K
  exact K
end ZA
end
section
section ZC
variable {l : Launch} {G : GT} {M : MT} {d mc ms k n pc pc' : Nat} {Q : Option Value → Hp → Prop} {h : Hp} {lv : LV} {st : List Value}
theorem zcat (G : GT) (st : List Value) : ((st.map (zV G)).map fun v => v.category).sum = (st.map fun v => v.category).sum := by
  induction st with
  | nil => rfl
  | cons a t ih => simp only [List.map_cons, List.sum_cons, ih, zV_cat]
theorem z_after {p : Program} {e : Env} {R : Room} {s : State} {m : MethodId} {args : Array Value} {below : List Frame} {meth : Method} {c : Code} {H : Heap} {locs : List Loc} {cells slots mc' ms' : Nat} {Z : State → Prop} {ls : Array Slot} {rest st0 : List Value} {Q' : Option Value → Hp → Prop}
    (hr : va_Run p l e R s m args below meth c H locs cells slots mc' ms' (F0 m pc ls st0) rest (fun st oc t => (∃ (v : Option Value) (h' : Hp), oc = .returned (v.map (zV G)) ∧ Q' v h' ∧ HR G h' t.heap) ∧ va_F (zW G) st t) (zW G)) (hS : va_S (zW G) s.heap H locs)
    (kk : ∀ (v : Option Value) (h' : Hp) (H1 : Heap) (locs1 : List Loc), Q' v h' → HR G h' H1 → va_S (zW G) s.heap H1 locs1 → W p l e R s m args below meth c H1 locs1 (cells + mc') (slots + ms') Z (F0 m (pc + 3) ls ((v.map (zV G)).toList ++ rest))) : W p l e R s m args below meth c H locs cells slots Z (F0 m pc ls st0) := by
  intro T hT X
  obtain ⟨v, st₀, t, T', L, h0, X', hL, e1, e2, ⟨⟨v2, h', hv, hq, hR⟩, hz, hk⟩, step⟩ := hr T hT X
  have hv2 : v = v2.map (zV G) := Outcome.returned.inj hv
  rw [h0] at hz hk
  obtain ⟨t2, a1, b1⟩ := kk v2 h' T'.heap (locs ++ L) hq (by rw [e1]; exact hR)
    ⟨Nat.le_trans hS.1 (by rw [e1]; exact hz), fun q h1 h2 => by rw [e1, hk q (Nat.lt_of_lt_of_le h1 hS.1) h2]; exact hS.2.1 q h1 h2, fun q hq => by
      rcases List.mem_append.mp hq with h | h
      · exact hS.2.2 q h
      · exact hL q h⟩ T' rfl X'
  rw [hv2] at step
  exact ⟨t2, step t2 a1, b1⟩
theorem z_pre {s : State} {H : Heap} {as : List Value} {locs : List Loc} (hSt : St G s s.heap) (hge : gb G ≤ s.heap.size) (hR : HR G h H) (hS : va_S (zW G) s.heap H locs) : PreS s H (va_Pc (as.map (zV G)) (fun U => St G U U.heap ∧ HR G h U.heap ∧ gb G ≤ U.heap.size)) (as.map (zV G)) :=
  ⟨fun a U g mk q => ⟨q.1, q.2.1.call g mk a, q.2.2.1, q.2.2.2⟩, fun U hU hW => ⟨rfl, hSt.warm hW (by rw [hU]; exact fun q h1 h2 => hS.2.1 q h1 h2), by rw [hU]; exact hR, by rw [hU]; exact Nat.le_trans hge hS.1⟩⟩
/-- the words that a call wants -/
def zwd (own : String) (idx : Nat) (y : MethodName) (My : MT) : Prop := Cond.methodLink own idx y ∈ TB ∧ Cond.code y My.2.1 My.2.2.1 My.2.2.2.1 ∈ TB ∧ Cond.initialized y.cls ∈ TB
theorem zgood {ws : List Cond} (h : ∀ w ∈ ws, w ∈ TB) : GoodIn TB ws := fun w hw => tb_good w (h w hw)
theorem zgood1 {w0 : Cond} {ws : List Cond} (h0 : w0 ∈ TB) (h : ∀ w ∈ ws, w ∈ TB) : ∀ w ∈ w0 :: ws, w ∈ TB := fun w hw => by
  rcases List.mem_cons.mp hw with rfl | hw
  · exact h0
  · exact h w hw
/-- a virtual call, private ones among them -/
theorem aw_callv {My : MT} {y : MethodName} {C : String} {T : u_T} {d' mc' ms' idx b ci N nn : Nat} {as : List Value} {st0 : List Value} {Q' : Option Value → Hp → Prop} (hct : Ct l G My y d' mc' ms' (.ref b :: as) h Q') (hd : decode M.2.1 pc = .ok (.invokevirtual idx, 3)) (hn : pc + 3 = pc') (hw : zwd M.1 idx y My) (hi : Cond.instanceMethod y ∈ TB) (hsl : Cond.selects C y y ∈ TB) (hdd : y.cls = C ∧ y.cls ≠ "java/lang/invoke/MethodHandle" ∧ y.cls ≠ "java/lang/invoke/VarHandle" ∧ (parseMethodDescriptor y.desc).map (fun d => d.parameters.length) = some nn) (hnn : as.length = nn)
    (he : zOb (h.2 b) ci N) (hc : zcl[ci]? = some (C, T, N)) (hdp : d' + 1 ≤ d ∧ My.2.2.1 ≤ 45) (hf : k + mc' ≤ mc ∧ n + ms' ≤ ms) (hst : st0 = as.reverse ++ .ref b :: st) (hsm : (st.map fun v => v.category).sum ≤ 8)
    (kk : ∀ v h', Q' v h' → AW l G M d mc ms Q (k + mc') (n + ms') h' lv (v.toList ++ st) pc') : AW l G M d mc ms Q k n h lv st0 pc := by
  intro p e s m args below meth c H locs ls Z hC hR hS hl hF
  have hx := hC.1
  have hb := hC.2.1
  subst hn
  subst hst
  have hSt := hC.2.2.2.2.2.2.2.2.1
  have hge := hC.2.2.2.2.2.2.2.2.2
  have hts := hC.2.2.2.2.2.2.2.1
  have hPr := z_pre (h := h) (as := .ref b :: as) hSt hge hR hS
  obtain ⟨h16, hz⟩ := hR.obj he.1 hc
  have hrecv := va_recv (q0 := 0) hSt.1 (hR.one h16 he.1 hz) hc rfl
  have hrun := va_runV (H := H) (locs := locs) (cells := k) (slots := n) (e := e) (below := below) (meth := meth) (R := rmd d mc ms) (As := as.map (zV G)) (rest := st.map (zV G)) (g := F0 m pc ls ((as.reverse ++ .ref b :: st).map (zV G))) (C := C) (b := zad G b) (nL := M.2.2.1) ⟨hx, hb, hC.2.2.1, hC.2.2.2.2.2.2.1, hts⟩ hct (cwV nn hts (zgood (ws := wsV M.1 idx C y _) (zgood1 hw.1 (zgood1 hi (zgood1 hsl (zgood1 (hdd.1 ▸ hw.2.2) (zgood1 hw.2.1 (fun w h => h))))))) rfl rfl rfl hdd ⟨hdp.1, by show 8 + (My.2.2.1 + 11) + 64 * d' ≤ 64 * d; omega⟩) ⟨hPr.1, hrecv, hPr.2⟩ rfl (by rw [List.length_map]; exact hnn) (by exact hl.1) (by simp [zV]) (lv_room (by rw [zcat]; exact hsm)) hd hf
  refine z_after (Q' := Q') hrun hS fun v h' H1 locs1 hq hR1 hS1 => ?_
  have K := kk v h' hq p e s m args below meth c H1 locs1 ls Z hC hR1 hS1 hl hF
  rw [List.map_append, show v.toList.map (zV G) = (v.map (zV G)).toList by cases v <;> rfl] at K
  exact K
/-- a static call -/
theorem aw_calls {My : MT} {y : MethodName} {d' mc' ms' idx nn : Nat} {as : List Value} {st0 : List Value} {Q' : Option Value → Hp → Prop} (hct : Ct l G My y d' mc' ms' as h Q') (hd : decode M.2.1 pc = .ok (.invokestatic idx, 3)) (hn : pc + 3 = pc') (hw : zwd M.1 idx y My) (hi : Cond.static y ∈ TB) (hdd : y.cls ≠ "java/lang/invoke/MethodHandle" ∧ y.cls ≠ "java/lang/invoke/VarHandle" ∧ (parseMethodDescriptor y.desc).map (fun d => d.parameters.length) = some nn) (hnn : as.length = nn)
    (hdp : d' + 1 ≤ d ∧ My.2.2.1 ≤ 45) (hf : k + mc' ≤ mc ∧ n + ms' ≤ ms) (hst : st0 = as.reverse ++ st) (hsm : (st.map fun v => v.category).sum ≤ 8)
    (kk : ∀ v h', Q' v h' → AW l G M d mc ms Q (k + mc') (n + ms') h' lv (v.toList ++ st) pc') : AW l G M d mc ms Q k n h lv st0 pc := by
  intro p e s m args below meth c H locs ls Z hC hR hS hl hF
  have hx := hC.1
  have hb := hC.2.1
  subst hn
  subst hst
  have hSt := hC.2.2.2.2.2.2.2.2.1
  have hge := hC.2.2.2.2.2.2.2.2.2
  have hts := hC.2.2.2.2.2.2.2.1
  have hPr := z_pre (h := h) (as := as) hSt hge hR hS
  have hrun := va_runS (H := H) (locs := locs) (cells := k) (slots := n) (e := e) (below := below) (meth := meth) (R := rmd d mc ms) (As := as.map (zV G)) (rest := st.map (zV G)) (g := F0 m pc ls ((as.reverse ++ st).map (zV G))) (nL := M.2.2.1) ⟨hx, hb, hC.2.2.1, hC.2.2.2.2.2.2.1, hts⟩ hct (va_cwS nn hts (zgood (ws := va_wsS M.1 idx y _) (zgood1 hw.1 (zgood1 hi (zgood1 hw.2.2 (zgood1 hw.2.1 (fun w h => h)))))) rfl rfl rfl hdd ⟨hdp.1, by show 8 + (My.2.2.1 + 11) + 64 * d' ≤ 64 * d; omega⟩) hPr rfl (by rw [List.length_map]; exact hnn) (by exact hl.1) (by simp) (lv_room (by rw [zcat]; exact hsm)) hd hf
  refine z_after (Q' := Q') hrun hS fun v h' H1 locs1 hq hR1 hS1 => ?_
  have K := kk v h' hq p e s m args below meth c H1 locs1 ls Z hC hR1 hS1 hl hF
  rw [List.map_append, show v.toList.map (zV G) = (v.map (zV G)).toList by cases v <;> rfl] at K
  exact K
/-- a constructor's call -/
theorem aw_calli {My : MT} {y : MethodName} {d' mc' ms' idx b nn : Nat} {as : List Value} {st0 : List Value} {Q' : Option Value → Hp → Prop} (hct : Ct l G My y d' mc' ms' (.ref b :: as) h Q') (hd : decode M.2.1 pc = .ok (.invokespecial idx, 3)) (hn : pc + 3 = pc') (hw : zwd M.1 idx y My) (hi : Cond.instanceMethod y ∈ TB) (hini : y.name = "<init>") (hret : My.2.2.2.1 = none) (hdd : y.cls ≠ "java/lang/invoke/MethodHandle" ∧ y.cls ≠ "java/lang/invoke/VarHandle" ∧ (parseMethodDescriptor y.desc).map (fun d => d.parameters.length) = some nn) (hnn : as.length = nn)
    (hdp : d' + 1 ≤ d ∧ My.2.2.1 ≤ 45) (hf : k + mc' ≤ mc ∧ n + ms' ≤ ms) (hst : st0 = as.reverse ++ .ref b :: st) (hsm : (st.map fun v => v.category).sum ≤ 8)
    (kk : ∀ v h', Q' v h' → AW l G M d mc ms Q (k + mc') (n + ms') h' lv (v.toList ++ st) pc') : AW l G M d mc ms Q k n h lv st0 pc := by
  intro p e s m args below meth c H locs ls Z hC hR hS hl hF
  have hx := hC.1
  have hb := hC.2.1
  subst hn
  subst hst
  have hSt := hC.2.2.2.2.2.2.2.2.1
  have hge := hC.2.2.2.2.2.2.2.2.2
  have hts := hC.2.2.2.2.2.2.2.1
  have hPr := z_pre (h := h) (as := .ref b :: as) hSt hge hR hS
  obtain ⟨hw1, hw2, hw3⟩ := hw
  unfold Ct at hct
  rw [hret] at hct hw2
  have hrun := va_runI (H := H) (locs := locs) (cells := k) (slots := n) (e := e) (below := below) (meth := meth) (R := rmd d mc ms) (As := as.map (zV G)) (rest := st.map (zV G)) (b := zad G b) (g := F0 m pc ls ((as.reverse ++ .ref b :: st).map (zV G))) (nL := M.2.2.1) ⟨hx, hb, hC.2.2.1, hC.2.2.2.2.2.2.1, hts⟩ hct (cwI nn hts (zgood (zgood1 hw2 (fun w h => h))) rfl rfl rfl (hts _ hw3) (hts _ hw1) (hts _ hi) hini hdd ⟨hdp.1, by show 8 + (My.2.2.1 + 11) + 64 * d' ≤ 64 * d; omega⟩) hPr rfl (by rw [List.length_map]; exact hnn) (by exact hl.1) (by simp [zV]) (lv_room (by rw [zcat]; exact hsm)) hd hf
  refine z_after (Q' := Q') hrun hS fun v h' H1 locs1 hq hR1 hS1 => ?_
  have K := kk v h' hq p e s m args below meth c H1 locs1 ls Z hC hR1 hS1 hl hF
  rw [List.map_append, show v.toList.map (zV G) = (v.map (zV G)).toList by cases v <;> rfl] at K
  exact K
/-- a nest mate's constructor -/
theorem aw_calliN {My : MT} {y : MethodName} {d' mc' ms' idx b nn : Nat} {as : List Value} {st0 : List Value} {Q' : Option Value → Hp → Prop} (hct : Ct l G My y d' mc' ms' (.ref b :: as) h Q') (hd : decode M.2.1 pc = .ok (.invokespecial idx, 3)) (hn : pc + 3 = pc') (hM : M.1 = "AmberGrains") (hwN : (idx, y) ∈ znM) (hw2 : Cond.code y My.2.1 My.2.2.1 My.2.2.2.1 ∈ TB) (hw3 : Cond.initialized y.cls ∈ TB) (hi : Cond.instanceMethod y ∈ TB) (hini : y.name = "<init>") (hret : My.2.2.2.1 = none) (hdd : y.cls ≠ "java/lang/invoke/MethodHandle" ∧ y.cls ≠ "java/lang/invoke/VarHandle" ∧ (parseMethodDescriptor y.desc).map (fun d => d.parameters.length) = some nn) (hnn : as.length = nn)
    (hdp : d' + 1 ≤ d ∧ My.2.2.1 ≤ 45) (hf : k + mc' ≤ mc ∧ n + ms' ≤ ms) (hst : st0 = as.reverse ++ .ref b :: st) (hsm : (st.map fun v => v.category).sum ≤ 8)
    (kk : ∀ v h', Q' v h' → AW l G M d mc ms Q (k + mc') (n + ms') h' lv (v.toList ++ st) pc') : AW l G M d mc ms Q k n h lv st0 pc := by
  intro p e s m args below meth c H locs ls Z hC hR hS hl hF
  have hx := hC.1
  have hb := hC.2.1
  subst hn
  subst hst
  have hSt := hC.2.2.2.2.2.2.2.2.1
  have hge := hC.2.2.2.2.2.2.2.2.2
  have hts := hC.2.2.2.2.2.2.2.1
  have hPr := z_pre (h := h) (as := .ref b :: as) hSt hge hR hS
  have hw1 := hSt.2.2.2.2.2.2.2.2.1 _ hwN
  unfold Ct at hct
  rw [hret] at hct hw2
  rw [← hM] at hw1
  have hrun := va_runIN (H := H) (locs := locs) (cells := k) (slots := n) (e := e) (below := below) (meth := meth) (R := rmd d mc ms) (As := as.map (zV G)) (rest := st.map (zV G)) (b := zad G b) (g := F0 m pc ls ((as.reverse ++ .ref b :: st).map (zV G))) (nL := M.2.2.1) ⟨hx, hb, hC.2.2.1, hC.2.2.2.2.2.2.1, hts⟩ hct ⟨va_cnB nn hts (zgood (zgood1 hw2 (fun w h => h))) rfl rfl rfl hw1 (hts _ hw3) hdd ⟨hdp.1, by show 8 + (My.2.2.1 + 11) + 64 * d' ≤ 64 * d; omega⟩, hini, hts _ hi⟩ hPr rfl (by rw [List.length_map]; exact hnn) (by exact hl.1) (by simp [zV]) (lv_room (by rw [zcat]; exact hsm)) hd hf
  refine z_after (Q' := Q') hrun hS fun v h' H1 locs1 hq hR1 hS1 => ?_
  have K := kk v h' hq p e s m args below meth c H1 locs1 ls Z hC hR1 hS1 hl hF
  rw [List.map_append, show v.toList.map (zV G) = (v.map (zV G)).toList by cases v <;> rfl] at K
  exact K
/-- Object's constructor -/
theorem aw_objInit {idx a : Nat} (hd : decode M.2.1 pc = .ok (.invokespecial idx, 3)) (hn : pc + 3 = pc') (hw : Cond.methodLink M.1 idx objectInit ∈ TB) (hi : Cond.instanceMethod objectInit ∈ TB) (hcd : Cond.code objectInit ⟨#[0xb1]⟩ 1 none ∈ TB) (hd1 : 1 ≤ d) (hsm : (st.map fun v => v.category).sum ≤ 8)
    (kk : AW l G M d mc ms Q k n h lv st pc') : AW l G M d mc ms Q k n h lv (.ref a :: st) pc := by
  intro p e s m args below meth c H locs ls Z hC hR hS hl hF
  have hx := hC.1
  have hb := hC.2.1
  subst hn
  have hts := hC.2.2.2.2.2.2.2.1
  exact W.objInit hx hb hC.2.2.2.2.2.2.1 (hts _ hw) (hts _ hi) (hts _ hcd) (g := F0 m pc ls (zV G (.ref a) :: st.map (zV G))) rfl (by rw [hC.2.2.1]; exact hl.1) (a := zad G a) rfl hd hd1 (by show 2 * 0 + ((st.map (zV G)).map fun v => v.category).sum + 12 ≤ 64 * d; rw [zcat]; omega) (kk p e s m args below meth c H locs ls Z hC hR hS hl hF)
/-- a method's contract out of its walk -/
theorem ct_of {y : MethodName} {as : List Value} (hy : plainName y.cls = true) (hcls : y.cls = M.1) (hini : M.2.2.2.2 = true → y.name = "<init>") (hlv : ∀ G : GT, zlv G 0 lv = lv_args 0 (as.map (zV G))) (hln : ∀ G : GT, (lg_sl (as.map (zV G))).length ≤ M.2.2.1) (aw : AW l G M d mc ms Q 0 0 h lv [] 0) : Ct l G M y d mc ms as h Q := by
  refine Met.ofW (cc := M.2.1) (maxL := M.2.2.1) (ret := M.2.2.2.1) hy rfl ?_
  intro p e s m args below meth c s₁ B hml hv
  obtain ⟨rfl, hSt, hR, hge⟩ := hv
  have hts := atoms_spec (ws := .code y M.2.1 M.2.2.1 M.2.2.2.1 :: TB) B.pre
  have hown : s.vm.findClass y.cls = some m.cls := findClass_of_methodNamed B.named
  rw [hcls] at hown
  have hl := lv_entry (as.map (zV G)) (hln G)
  rw [← hlv G] at hl
  rw [lg_entry_eq]
  have hC : Cx G M p s m (as.map (zV G)).toArray meth c := ⟨B.exec, B.bytes, hml, B.returns, B.notSynchronized, fun z => ((name_of_methodNamed B.named B.method).1).trans (hini z), hown, fun w hw => hts w (List.mem_cons_of_mem _ hw), hSt, hge⟩
  refine aw p e s m _ below meth c s.heap [] _ _ hC hR va_S.rf hl ?_
  intro v h' H' locs pc ls i hq hR' hS' hd hz
  have hpost : ∀ (t : State), t.heap = H' → ∀ oc : Outcome, oc = .returned (v.map (zV G)) → (∃ (v : Option Value) (h' : Hp), oc = .returned (v.map (zV G)) ∧ Q v h' ∧ HR G h' t.heap) ∧ va_F (zW G) s t := fun t ht oc ho => ⟨⟨v, h', ho, hq, by rw [ht]; exact hR'⟩, hS'.F ht⟩
  have hlocks := B.notSynchronized
  have hrt := B.returns
  unfold zri at hz
  split at hz
  · rename_i heq
    subst hz
    exact W.vret B.exec B.bytes (hrt.trans heq) (fun t ht _ => hpost t ht _ rfl) hS'.2.2 hd hlocks
  · rename_i x ty heq
    obtain ⟨rfl, hnr⟩ := hz
    exact W.zret B.exec B.bytes (hrt.trans heq) hnr (fun t ht _ => hpost t ht _ rfl) hS'.2.2 hd hlocks
  · rename_i x ty heq
    obtain ⟨rfl, rfl⟩ := hz
    exact W.lret B.exec B.bytes (hrt.trans heq) (fun t ht _ => hpost t ht _ rfl) hS'.2.2 hd hlocks
  · rename_i x ty heq
    obtain ⟨rfl, hty⟩ := hz
    exact W.aret B.exec B.bytes (hrt.trans heq) (by cases ty <;> first | exact Or.inl ⟨_, rfl⟩ | exact Or.inr ⟨_, rfl⟩ | cases hty) (Or.inr ⟨_, rfl⟩) (fun t ht _ => hpost t ht _ rfl) hS'.2.2 hd hlocks
  · rename_i ty heq
    obtain ⟨rfl, hty⟩ := hz
    exact W.aret B.exec B.bytes (hrt.trans heq) (by cases ty <;> first | exact Or.inl ⟨_, rfl⟩ | exact Or.inr ⟨_, rfl⟩ | cases hty) (Or.inl rfl) (fun t ht _ => hpost t ht _ rfl) hS'.2.2 hd hlocks
  · exact hz.elim
end ZC
end
section
section ZN
variable {l : Launch} {G : GT} {M : MT} {d mc ms k n pc pc' : Nat} {Q : Option Value → Hp → Prop} {h : Hp} {lv : LV} {st : List Value}
theorem aw_mmax {idx : Nat} {x y : Int32} (hd : decode M.2.1 pc = .ok (.invokestatic idx, 3)) (hn : pc + 3 = pc') (hw : Cond.methodLink M.1 idx Lib.Math.max.name ∈ TB) (hw2 : Cond.static Lib.Math.max.name ∈ TB) (hw3 : Cond.initialized "java/lang/Math" ∈ TB) (hw4 : Cond.code Lib.Math.max.name Lib.Math.max.code 2 (some .int) ∈ TB) (hd1 : 1 ≤ d) (hk : k ≤ mc ∧ n ≤ ms) (hsm : (st.map fun v => v.category).sum ≤ 8)
    (kk : AW l G M d mc ms Q k n h lv (.int (if x < y then y else x) :: st) pc') : AW l G M d mc ms Q k n h lv (.int y :: .int x :: st) pc := by
  intro p e s m args below meth c H locs ls Z hC hR hS hl hF
  have hx := hC.1
  have hb := hC.2.1
  subst hn
  have hts := hC.2.2.2.2.2.2.2.1
  exact va_mmax hx hb (by rw [hC.2.2.1]; exact hl.1.symm) hC.2.2.2.2.2.2.1 (hts _ hw) (hts _ hw2) (hts _ hw3) (hts _ hw4) hd1 (by show _ + 13 ≤ 64 * d; rw [zcat]; omega) hk.1 hk.2 hd (kk p e s m args below meth c H locs ls Z hC hR hS hl hF)
theorem aw_mmin {idx : Nat} {x y : Int32} (hd : decode M.2.1 pc = .ok (.invokestatic idx, 3)) (hn : pc + 3 = pc') (hw : Cond.methodLink M.1 idx Lib.Math.min.name ∈ TB) (hw2 : Cond.static Lib.Math.min.name ∈ TB) (hw3 : Cond.initialized "java/lang/Math" ∈ TB) (hw4 : Cond.code Lib.Math.min.name Lib.Math.min.code 2 (some .int) ∈ TB) (hd1 : 1 ≤ d) (hk : k ≤ mc ∧ n ≤ ms) (hsm : (st.map fun v => v.category).sum ≤ 8)
    (kk : AW l G M d mc ms Q k n h lv (.int (if y < x then y else x) :: st) pc') : AW l G M d mc ms Q k n h lv (.int y :: .int x :: st) pc := by
  intro p e s m args below meth c H locs ls Z hC hR hS hl hF
  have hx := hC.1
  have hb := hC.2.1
  subst hn
  have hts := hC.2.2.2.2.2.2.2.1
  exact va_mmin hx hb (by rw [hC.2.2.1]; exact hl.1.symm) hC.2.2.2.2.2.2.1 (hts _ hw) (hts _ hw2) (hts _ hw3) (hts _ hw4) hd1 (by show _ + 13 ≤ 64 * d; rw [zcat]; omega) hk.1 hk.2 hd (kk p e s m args below meth c H locs ls Z hC hR hS hl hF)
theorem aw_mabs {idx : Nat} {x : Int64} (hd : decode M.2.1 pc = .ok (.invokestatic idx, 3)) (hn : pc + 3 = pc') (hw : Cond.methodLink M.1 idx Lib.MathLoose.abs_long.x ∈ TB) (hw2 : Cond.static Lib.MathLoose.abs_long.x ∈ TB) (hw3 : Cond.initialized "java/lang/Math" ∈ TB) (hw4 : Cond.code Lib.MathLoose.abs_long.x Lib.MathLoose.abs_long.code 2 (some .long) ∈ TB) (hd1 : 1 ≤ d) (hk : k ≤ mc ∧ n ≤ ms) (hsm : (st.map fun v => v.category).sum ≤ 8)
    (kk : AW l G M d mc ms Q k n h lv (.long (if 0 < x then x else -x) :: st) pc') : AW l G M d mc ms Q k n h lv (.long x :: st) pc := by
  intro p e s m args below meth c H locs ls Z hC hR hS hl hF
  have hx := hC.1
  have hb := hC.2.1
  subst hn
  have hts := hC.2.2.2.2.2.2.2.1
  exact va_mabs_long hx hb (by rw [hC.2.2.1]; exact hl.1.symm) hC.2.2.2.2.2.2.1 (hts _ hw) (hts _ hw2) (hts _ hw3) (hts _ hw4) hd1 (by show _ + 13 ≤ 64 * d; rw [zcat]; omega) hk.1 hk.2 hd (kk p e s m args below meth c H locs ls Z hC hR hS hl hF)
theorem zroomA {d x : Nat} (hd1 : 1 ≤ d) (hs : x ≤ 8) : 2 * 0 + x + (nativeFrameWords "java/lang/System" "arraycopy" 5 + 11) ≤ 64 * d := by
  have : nativeFrameWords "java/lang/System" "arraycopy" 5 + 11 ≤ 56 := by decide +kernel
  omega
theorem zN_of {z : Int32} (hz : ¬ z < 0) : z.toInt = (z.toNatClampNeg : Int) := by
  have hz0 : (0 : Int) ≤ z.toInt := by
    have := Int32.not_lt.mp hz
    simpa using Int32.le_iff_toInt_le.mp this
  show z.toInt = ((z.toInt.toNat : Nat) : Int)
  omega
def zcpi (e e' : zE) (sp dp n : Nat) : zE := .inl (zak e', (zal e', .inl (va_cpy (zai e) (zai e') sp dp n)))
def zcpj (e e' : zE) (sp dp n : Nat) : zE := .inl (zak e', (zal e', .inr (.inl (va_cpy (zaj e) (zaj e') sp dp n))))
/-- System.arraycopy between arrays of one sort -/
theorem aw_copyG {idx a b kd n0 n1 : Nat} {sp dp nn : Int32} {x0 x1 x2 : vp_A} (hd : decode M.2.1 pc = .ok (.invokestatic idx, 3)) (hn : pc + 3 = pc') (hw : Cond.methodLink M.1 idx arraycopyName ∈ TB) (hw2 : Cond.native arraycopyName ∈ TB) (hw3 : Cond.static arraycopyName ∈ TB) (hw4 : Cond.initialized "java/lang/System" ∈ TB)
    (a16 : 16 ≤ a) (b16 : 16 ≤ b) (h5 : kd < 5) (hprim : refKind (ak kd) = false) (ha : h.2 a = .inl (kd, x0)) (hb2 : h.2 b = .inl (kd, x1)) (f0 : Nat → Value) (f1 : Nat → Value) (e0 : ∀ cA, vp_cell cA (zA G x0) = arrV cA n0 f0) (e1 : ∀ cA, vp_cell cA (zA G x1) = arrV cA n1 f1)
    (h1 : ¬ sp < 0) (h2 : ¬ dp < 0) (h3 : ¬ nn < 0) (h4 : sp.toNatClampNeg + nn.toNatClampNeg ≤ n0) (h6 : dp.toNatClampNeg + nn.toNatClampNeg ≤ n1) (hfit : ∀ i, i < nn.toNatClampNeg → fits (ak kd) (f0 (sp.toNatClampNeg + i)) = true) (hnr : ∀ i, match f0 (sp.toNatClampNeg + i) with | .ref _ => False | _ => True)
    (hcp : ∀ c0 c1, copied (vp_cell c0 (zA G x0)) (vp_cell c1 (zA G x1)) sp dp nn = vp_cell c1 (zA G x2)) (hd1 : 1 ≤ d) (hsm : (st.map fun v => v.category).sum ≤ 8)
    (kk : AW l G M d mc ms Q k n (hset h b (.inl (kd, x2))) lv st pc') : AW l G M d mc ms Q k n h lv (.int nn :: .int dp :: .ref b :: .int sp :: .ref a :: st) pc := by
  intro p e s m args below meth c H locs ls Z hC hR hS hl hF
  have hx := hC.1
  have hb := hC.2.1
  subst hn
  have hts := hC.2.2.2.2.2.2.2.1
  have hK := hC.2.2.2.2.2.2.2.2.1.1
  intro T hT X
  have hc0 := hR.arr a16 ha
  have hc1 := hR.arr b16 hb2
  rw [e0] at hc0
  rw [e1] at hc1
  obtain ⟨-, k0, hk0, cm0, hkk0⟩ := (hK.2 kd _ (gty h5)).1 n0 f0
  obtain ⟨-, k1, hk1, cm1, hkk1⟩ := (hK.2 kd _ (gty h5)).1 n1 f1
  have hcp' : copied (arrV (gC G kd) n0 f0) (arrV (gC G kd) n1 f1) sp dp nn = vp_cell (gC G kd) (zA G x2) := by rw [← e0, ← e1]; exact hcp _ _
  have hgd : ∀ i, i < nn.toNatClampNeg → (arrV (gC G kd) n0 f0).slots.getD (sp.toNatClampNeg + i) .null = f0 (sp.toNatClampNeg + i) := fun i hi => by
    rw [Array.getD_eq_getD_getElem?, arrV_read _ _ (by omega)]
    rfl
  obtain ⟨vm', X', step⟩ := X.arraycopy hx hC.2.2.2.2.2.2.1 (hts _ hw) (hts _ hw2) (hts _ hw3) (hts _ hw4) (src := zad G a) (dst := zad G b) (cs := arrV (gC G kd) n0 f0) (cd := arrV (gC G kd) n1 f1) (srcPos := sp) (destPos := dp) (n := nn) (by rw [hT]; exact hc0) (by rw [hT]; exact hc1)
    (fun _ h => by cases h) (fun _ h => by cases h) (fun h => by cases h) (fun h => by cases h) hk0 hk1 hkk0 hkk1 (by simp [hprim]) h1 h2 h3
    (by rw [zN_of h1, zN_of h3, arrV_size]; omega)
    (by rw [zN_of h2, zN_of h3, arrV_size]; omega)
    (fun vm₁ _ i hi => by
      refine ⟨?_, ?_⟩
      · rw [hgd i hi]
        exact hfit i hi
      · rw [hgd i hi]
        have hq := hnr i
        revert hq
        cases f0 (sp.toNatClampNeg + i) <;> first | exact fun _ => trivial | exact fun z => z.elim)
    (g := F0 m pc ls ((Value.int nn :: .int dp :: .ref b :: .int sp :: .ref a :: st).map (zV G))) rfl (by show ls.size = _; rw [hC.2.2.1]; exact hl.1) (rest := st.map (zV G)) rfl (by rw [hb]; exact hd) hd1 (by show 2 * 0 + _ + _ ≤ 64 * d; rw [zcat]; exact zroomA hd1 hsm)
  rw [hcp'] at X' step
  have hlt : zad G b < H.size := (Array.getElem?_eq_some_iff.mp hc1).1
  have hheap : ((T.setVm vm').setCell (zad G b) (vp_cell (gC G kd) (zA G x2))).heap = H.setIfInBounds (zad G b) (vp_cell (gC G kd) (zA G x2)) := by rw [← hT]; rfl
  have oq : ∀ q : Nat, q ≠ zad G b → (H.setIfInBounds (zad G b) (vp_cell (gC G kd) (zA G x2)))[q]? = H[q]? := fun q hq => by simp [Array.getElem?_setIfInBounds, Ne.symm hq]
  have z : (H.setIfInBounds (zad G b) (vp_cell (gC G kd) (zA G x2))).size = H.size := by simp
  have hWb : zW G (zad G b) := by show gb G ≤ zad G b; unfold zad; rw [if_neg (by omega)]; omega
  obtain ⟨t, a1, b1⟩ := kk p e s m args below meth c _ _ ls Z hC (hR.set (e := .inl (kd, x2)) b16 (by rw [hb2]; exact zinl) (show (H.setIfInBounds (zad G b) _)[zad G b]? = some (vp_cell (gC G kd) (zA G x2)) by simp [Array.getElem?_setIfInBounds, hlt]) z oq)
    ⟨by rw [z]; exact hS.1, fun q g1 g2 => by
      rw [oq q (fun e => g2 (by rw [e]; exact hWb))]
      exact hS.2.1 q g1 g2, fun q hq => by
      rcases List.mem_append.mp hq with h | h
      · exact hS.2.2 q h
      · obtain ⟨z, -, hz⟩ := List.mem_map.mp h
        rw [← hz]
        exact hWb⟩ hl hF _ hheap X'
  exact ⟨t, step t a1, b1⟩
theorem aw_copyi {idx a b : Nat} {sp dp nn : Int32} (hd : decode M.2.1 pc = .ok (.invokestatic idx, 3)) (hn : pc + 3 = pc') (hw : Cond.methodLink M.1 idx arraycopyName ∈ TB) (hw2 : Cond.native arraycopyName ∈ TB) (hw3 : Cond.static arraycopyName ∈ TB) (hw4 : Cond.initialized "java/lang/System" ∈ TB)
    (a16 : 16 ≤ a) (b16 : 16 ≤ b) (ha : zIA (h.2 a) 0) (hb2 : zIA (h.2 b) 0)
    (h1 : ¬ sp < 0) (h2 : ¬ dp < 0) (h3 : ¬ nn < 0) (h4 : sp.toNatClampNeg + nn.toNatClampNeg ≤ zal (h.2 a)) (h6 : dp.toNatClampNeg + nn.toNatClampNeg ≤ zal (h.2 b)) (hd1 : 1 ≤ d) (hsm : (st.map fun v => v.category).sum ≤ 8)
    (kk : AW l G M d mc ms Q k n (hset h b (zcpi (h.2 a) (h.2 b) sp.toNatClampNeg dp.toNatClampNeg nn.toNatClampNeg)) lv st pc') : AW l G M d mc ms Q k n h lv (.int nn :: .int dp :: .ref b :: .int sp :: .ref a :: st) pc :=
  aw_copyG (kd := 0) (x0 := (zal (h.2 a), .inl (zai (h.2 a)))) (x1 := (zal (h.2 b), .inl (zai (h.2 b)))) (x2 := (zal (h.2 b), .inl (va_cpy (zai (h.2 a)) (zai (h.2 b)) sp.toNatClampNeg dp.toNatClampNeg nn.toNatClampNeg))) hd hn hw hw2 hw3 hw4 a16 b16 (by decide) rfl ha hb2 (fun j => .int (zai (h.2 a) j)) (fun j => .int (zai (h.2 b) j)) (fun _ => rfl) (fun _ => rfl) h1 h2 h3 h4 h6 (fun _ _ => rfl) (fun _ => trivial) (fun c0 c1 => va_copied (fun z => .int z) c0 c1 (zai (h.2 a)) (zai (h.2 b)) h4) hd1 hsm (by
    have e2 : zak (h.2 b) = 0 := by rw [hb2]; rfl
    unfold zcpi at kk
    rw [e2] at kk
    exact kk)
theorem aw_copyj {idx a b : Nat} {sp dp nn : Int32} (hd : decode M.2.1 pc = .ok (.invokestatic idx, 3)) (hn : pc + 3 = pc') (hw : Cond.methodLink M.1 idx arraycopyName ∈ TB) (hw2 : Cond.native arraycopyName ∈ TB) (hw3 : Cond.static arraycopyName ∈ TB) (hw4 : Cond.initialized "java/lang/System" ∈ TB)
    (a16 : 16 ≤ a) (b16 : 16 ≤ b) (ha : zJA (h.2 a) 3) (hb2 : zJA (h.2 b) 3)
    (h1 : ¬ sp < 0) (h2 : ¬ dp < 0) (h3 : ¬ nn < 0) (h4 : sp.toNatClampNeg + nn.toNatClampNeg ≤ zal (h.2 a)) (h6 : dp.toNatClampNeg + nn.toNatClampNeg ≤ zal (h.2 b)) (hd1 : 1 ≤ d) (hsm : (st.map fun v => v.category).sum ≤ 8)
    (kk : AW l G M d mc ms Q k n (hset h b (zcpj (h.2 a) (h.2 b) sp.toNatClampNeg dp.toNatClampNeg nn.toNatClampNeg)) lv st pc') : AW l G M d mc ms Q k n h lv (.int nn :: .int dp :: .ref b :: .int sp :: .ref a :: st) pc :=
  aw_copyG (kd := 3) (x0 := (zal (h.2 a), .inr (.inl (zaj (h.2 a))))) (x1 := (zal (h.2 b), .inr (.inl (zaj (h.2 b))))) (x2 := (zal (h.2 b), .inr (.inl (va_cpy (zaj (h.2 a)) (zaj (h.2 b)) sp.toNatClampNeg dp.toNatClampNeg nn.toNatClampNeg)))) hd hn hw hw2 hw3 hw4 a16 b16 (by decide) rfl ha hb2 (fun j => .long (zaj (h.2 a) j)) (fun j => .long (zaj (h.2 b) j)) (fun _ => rfl) (fun _ => rfl) h1 h2 h3 h4 h6 (fun _ _ => rfl) (fun _ => trivial) (fun c0 c1 => va_copied (fun z => .long z) c0 c1 (zaj (h.2 a)) (zaj (h.2 b)) h4) hd1 hsm (by
    have e2 : zak (h.2 b) = 3 := by rw [hb2]; rfl
    unfold zcpj at kk
    rw [e2] at kk
    exact kk)
end ZN
end
section
/-! pictures of objects: a World at w (its arrays at w + 1 .. w + 9), the model at u (its arrays at u + 1 .. u + 18) -/
/-- what is outside w .. w + n - 1 stays -/
def Same (w n : Nat) (h h' : Hp) : Prop := h'.1 = h.1 ∧ ∀ a, a < w ∨ w + n ≤ a → h'.2 a = h.2 a
theorem Same.rf {w n : Nat} {h : Hp} : Same w n h h := ⟨rfl, fun _ _ => rfl⟩
theorem Same.tr {w n : Nat} {h h1 h2 : Hp} (a : Same w n h h1) (b : Same w n h1 h2) : Same w n h h2 := ⟨b.1.trans a.1, fun x hx => (b.2 x hx).trans (a.2 x hx)⟩
theorem Same.hset {w n a : Nat} {h : Hp} {e : zE} (h1 : w ≤ a) (h2 : a < w + n) : Same w n h (hset h a e) := ⟨rfl, fun x hx => if_neg (by omega)⟩
theorem hset_eq (h : Hp) (a : Nat) (e : zE) : (hset h a e).2 a = e := if_pos rfl
theorem hset_ne {h : Hp} {a x : Nat} {e : zE} (hx : x ≠ a) : (hset h a e).2 x = h.2 x := if_neg hx
abbrev WT : Type := (Nat → Nat → Int32) × (Nat → Int32) × Value
def wlen (k : Nat) : Nat := if k = 7 then 24 else if k = 8 then 4 else 6
def wfs (w : Nat) (S : WT) : List Value := [.int (S.2.1 0), .ref (w + 1), .ref (w + 2), .ref (w + 3), .ref (w + 4), .ref (w + 5), .ref (w + 6), .ref (w + 7), .ref (w + 8), .ref (w + 9), .int (S.2.1 10), .int (S.2.1 11), .int (S.2.1 12), .int (S.2.1 13), S.2.2]
def WAt (h : Hp) (w : Nat) (S : WT) : Prop := 16 ≤ w ∧ h.2 w = .inr (5, wfs w S) ∧ (∀ k, 1 ≤ k → k ≤ 9 → ∃ f, h.2 (w + k) = .inl (0, (wlen k, .inl f)) ∧ ∀ i, i < wlen k → f i = S.1 k i) ∧ zisr S.2.2
def wup (S : WT) (k i : Nat) (x : Int32) : WT := (fun j => if j = k then upd (S.1 k) i x else S.1 j, S.2.1, S.2.2)
def wsc (S : WT) (k : Nat) (x : Int32) : WT := (S.1, fun j => if j = k then x else S.2.1 j, S.2.2)
def wse (S : WT) (v : Value) : WT := (S.1, S.2.1, v)
theorem WAt.fr {h h' : Hp} {w w2 n : Nat} {S : WT} (hW : WAt h w S) (hs : Same w2 n h h') (hd : w + 10 ≤ w2 ∨ w2 + n ≤ w) : WAt h' w S :=
  ⟨hW.1, (hs.2 w (by omega)).trans hW.2.1, fun k h1 h2 => by
    obtain ⟨f, e1, e2⟩ := hW.2.2.1 k h1 h2
    exact ⟨f, (hs.2 (w + k) (by omega)).trans e1, e2⟩, hW.2.2.2⟩
theorem WAt.up {h : Hp} {w k i : Nat} {S : WT} {x : Int32} (hW : WAt h w S) (h1 : 1 ≤ k) (h9 : k ≤ 9) : WAt (hset h (w + k) (zseti (h.2 (w + k)) i x)) w (wup S k i x) := by
  refine ⟨hW.1, (hset_ne (by omega)).trans hW.2.1, fun j j1 j9 => ?_, hW.2.2.2⟩
  obtain ⟨f, e1, e2⟩ := hW.2.2.1 j j1 j9
  by_cases hj : j = k
  · subst hj
    refine ⟨upd f i x, by rw [hset_eq, e1]; rfl, fun q hq => ?_⟩
    show (if q = i then x else f q) = (if j = j then upd (S.1 j) i x else S.1 j) q
    rw [if_pos rfl]
    show _ = if q = i then x else S.1 j q
    rw [e2 q hq]
  · refine ⟨f, by rw [hset_ne (by omega), e1], fun q hq => ?_⟩
    show f q = (if j = k then upd (S.1 k) i x else S.1 j) q
    rw [if_neg hj]
    exact e2 q hq
theorem WAt.ext {h : Hp} {w : Nat} {S : WT} {A : Nat → Nat → Int32} (hW : WAt h w S) (he : ∀ k, 1 ≤ k → k ≤ 9 → ∀ i, i < wlen k → S.1 k i = A k i) : WAt h w (A, S.2.1, S.2.2) :=
  ⟨hW.1, hW.2.1, fun k h1 h9 => by
    obtain ⟨f, e1, e2⟩ := hW.2.2.1 k h1 h9
    exact ⟨f, e1, fun i hi => (e2 i hi).trans (he k h1 h9 i hi)⟩, hW.2.2.2⟩
theorem wsc_fs (w : Nat) (S : WT) (kf : Nat) (x : Int32) (hk : kf = 10 ∨ kf = 11 ∨ kf = 12 ∨ kf = 13) : (wfs w S).set kf (.int x) = wfs w (wsc S kf x) := by
  rcases hk with rfl | rfl | rfl | rfl <;> rfl
theorem WAt.sc {h : Hp} {w kf : Nat} {S : WT} {x : Int32} (hW : WAt h w S) (hk : kf = 10 ∨ kf = 11 ∨ kf = 12 ∨ kf = 13) : WAt (hset h w (zsetf (h.2 w) kf (.int x))) w (wsc S kf x) := by
  refine ⟨hW.1, ?_, fun j j1 j9 => by
    obtain ⟨f, e1, e2⟩ := hW.2.2.1 j j1 j9
    exact ⟨f, (hset_ne (by omega)).trans e1, e2⟩, hW.2.2.2⟩
  rw [hset_eq, hW.2.1]
  show (Sum.inr (5, (wfs w S).set kf (.int x)) : zE) = _
  rw [wsc_fs w S kf x hk]
theorem WAt.se {h : Hp} {w : Nat} {S : WT} {v : Value} (hW : WAt h w S) (hv : zisr v) : WAt (hset h w (zsetf (h.2 w) 14 v)) w (wse S v) := by
  refine ⟨hW.1, ?_, fun j j1 j9 => by
    obtain ⟨f, e1, e2⟩ := hW.2.2.1 j j1 j9
    exact ⟨f, (hset_ne (by omega)).trans e1, e2⟩, hv⟩
  rw [hset_eq, hW.2.1]
  rfl
abbrev MS : Type := (Nat → Nat → Int32) × (Nat → Int32) × (Nat → Nat → Int64)
def mlen (j : Nat) : Nat := [0, 123, 123, 123, 100, 600, 6, 100, 6, 6, 15, 4, 7, 21, 20, 6, 6, 360, 60].getD j 0
def mkd (j : Nat) : Nat := if j = 9 ∨ j = 10 then 2 else 0
def mfs (u : Nat) (S : MS) : List Value := [.ref (u + 1), .ref (u + 2), .ref (u + 3), .int (S.2.1 3), .ref (u + 4), .int (S.2.1 5), .ref (u + 5), .ref (u + 6), .int (S.2.1 8), .ref (u + 7), .int (S.2.1 10), .int (S.2.1 11), .int (S.2.1 12), .int (S.2.1 13), .int (S.2.1 14), .int (S.2.1 15), .ref (u + 8), .ref (u + 9), .ref (u + 10), .ref (u + 11), .ref (u + 12), .ref (u + 13), .ref (u + 14), .int (S.2.1 23), .ref (u + 15), .ref (u + 16), .ref (u + 17), .ref (u + 18)]
/-- which array a field holds -/
def mof (k : Nat) : Nat := [1, 2, 3, 0, 4, 0, 5, 6, 0, 7, 0, 0, 0, 0, 0, 0, 8, 9, 10, 11, 12, 13, 14, 0, 15, 16, 17, 18].getD k 0
def MAt (h : Hp) (u : Nat) (S : MS) : Prop := 16 ≤ u ∧ h.2 u = .inr (7, mfs u S) ∧ (∀ j, 1 ≤ j → j ≤ 16 → ∃ f, h.2 (u + j) = .inl (mkd j, (mlen j, .inl f)) ∧ ∀ i, i < mlen j → f i = S.1 j i) ∧ (∀ j, 17 ≤ j → j ≤ 18 → ∃ f, h.2 (u + j) = .inl (3, (mlen j, .inr (.inl f))) ∧ ∀ i, i < mlen j → f i = S.2.2 j i)
def mup (S : MS) (k i : Nat) (x : Int32) : MS := (fun j => if j = k then upd (S.1 k) i x else S.1 j, S.2.1, S.2.2)
def msc (S : MS) (k : Nat) (x : Int32) : MS := (S.1, fun j => if j = k then x else S.2.1 j, S.2.2)
def mupL (S : MS) (k i : Nat) (x : Int64) : MS := (S.1, S.2.1, fun j => if j = k then vp_updL (S.2.2 k) i x else S.2.2 j)
theorem MAt.fr {h h' : Hp} {u w2 n : Nat} {S : MS} (hW : MAt h u S) (hs : Same w2 n h h') (hd : u + 19 ≤ w2 ∨ w2 + n ≤ u) : MAt h' u S :=
  ⟨hW.1, (hs.2 u (by omega)).trans hW.2.1, fun k h1 h2 => by
    obtain ⟨f, e1, e2⟩ := hW.2.2.1 k h1 h2
    exact ⟨f, (hs.2 (u + k) (by omega)).trans e1, e2⟩, fun k h1 h2 => by
    obtain ⟨f, e1, e2⟩ := hW.2.2.2 k h1 h2
    exact ⟨f, (hs.2 (u + k) (by omega)).trans e1, e2⟩⟩
theorem MAt.up {h : Hp} {u k i : Nat} {S : MS} {x : Int32} (hW : MAt h u S) (h1 : 1 ≤ k) (h9 : k ≤ 16) : MAt (hset h (u + k) (zseti (h.2 (u + k)) i x)) u (mup S k i x) := by
  refine ⟨hW.1, (hset_ne (by omega)).trans hW.2.1, fun j j1 j9 => ?_, fun j j1 j9 => by
    obtain ⟨f, e1, e2⟩ := hW.2.2.2 j j1 j9
    exact ⟨f, (hset_ne (by omega)).trans e1, e2⟩⟩
  obtain ⟨f, e1, e2⟩ := hW.2.2.1 j j1 j9
  by_cases hj : j = k
  · subst hj
    refine ⟨upd f i x, by rw [hset_eq, e1]; rfl, fun q hq => ?_⟩
    show (if q = i then x else f q) = (if j = j then upd (S.1 j) i x else S.1 j) q
    rw [if_pos rfl]
    show _ = if q = i then x else S.1 j q
    rw [e2 q hq]
  · refine ⟨f, by rw [hset_ne (by omega), e1], fun q hq => ?_⟩
    show f q = (if j = k then upd (S.1 k) i x else S.1 j) q
    rw [if_neg hj]
    exact e2 q hq
theorem MAt.upL {h : Hp} {u k i : Nat} {S : MS} {x : Int64} (hW : MAt h u S) (h1 : 17 ≤ k) (h9 : k ≤ 18) : MAt (hset h (u + k) (zsetj (h.2 (u + k)) i x)) u (mupL S k i x) := by
  refine ⟨hW.1, (hset_ne (by omega)).trans hW.2.1, fun j j1 j9 => by
    obtain ⟨f, e1, e2⟩ := hW.2.2.1 j j1 j9
    exact ⟨f, (hset_ne (by omega)).trans e1, e2⟩, fun j j1 j9 => ?_⟩
  obtain ⟨f, e1, e2⟩ := hW.2.2.2 j j1 j9
  by_cases hj : j = k
  · subst hj
    refine ⟨vp_updL f i x, by rw [hset_eq, e1]; rfl, fun q hq => ?_⟩
    show (if q = i then x else f q) = (if j = j then vp_updL (S.2.2 j) i x else S.2.2 j) q
    rw [if_pos rfl]
    show _ = if q = i then x else S.2.2 j q
    rw [e2 q hq]
  · refine ⟨f, by rw [hset_ne (by omega), e1], fun q hq => ?_⟩
    show f q = (if j = k then vp_updL (S.2.2 k) i x else S.2.2 j) q
    rw [if_neg hj]
    exact e2 q hq
theorem MAt.ext {h : Hp} {u : Nat} {S : MS} {A : Nat → Nat → Int32} (hW : MAt h u S) (he : ∀ j, 1 ≤ j → j ≤ 16 → ∀ i, i < mlen j → S.1 j i = A j i) : MAt h u (A, S.2.1, S.2.2) :=
  ⟨hW.1, hW.2.1, fun k h1 h9 => by
    obtain ⟨f, e1, e2⟩ := hW.2.2.1 k h1 h9
    exact ⟨f, e1, fun i hi => (e2 i hi).trans (he k h1 h9 i hi)⟩, hW.2.2.2⟩
def msk (kf : Nat) : Bool := [3, 5, 8, 10, 11, 12, 13, 14, 15, 23].contains kf
theorem msk_or {kf : Nat} (hk : msk kf = true) : kf = 3 ∨ kf = 5 ∨ kf = 8 ∨ kf = 10 ∨ kf = 11 ∨ kf = 12 ∨ kf = 13 ∨ kf = 14 ∨ kf = 15 ∨ kf = 23 := by
  simp [msk] at hk
  omega
theorem MAt.sc {h : Hp} {u kf : Nat} {S : MS} {x : Int32} (hW : MAt h u S) (hk : msk kf = true) : MAt (hset h u (zsetf (h.2 u) kf (.int x))) u (msc S kf x) := by
  refine ⟨hW.1, ?_, fun j j1 j9 => by
    obtain ⟨f, e1, e2⟩ := hW.2.2.1 j j1 j9
    exact ⟨f, (hset_ne (by omega)).trans e1, e2⟩, fun j j1 j9 => by
    obtain ⟨f, e1, e2⟩ := hW.2.2.2 j j1 j9
    exact ⟨f, (hset_ne (by omega)).trans e1, e2⟩⟩
  rw [hset_eq, hW.2.1]
  show (Sum.inr (7, (mfs u S).set kf (.int x)) : zE) = .inr (7, mfs u (msc S kf x))
  rcases msk_or hk with rfl | rfl | rfl | rfl | rfl | rfl | rfl | rfl | rfl | rfl <;> rfl
section ZP
variable {l : Launch} {G : GT} {M : MT} {d mc ms k n pc pc' : Nat} {Q : Option Value → Hp → Prop} {h : Hp} {lv : LV} {st : List Value} {w u : Nat} {S : WT} {U : MS}
theorem aw_Wref {kf idx : Nat} (hW : WAt h w S) (hd : decode M.2.1 pc = .ok (.getfield idx, 3)) (hn : pc + 3 = pc') (hk : 1 ≤ kf ∧ kf ≤ 9) (hw : Cond.fieldLink M.1 idx (TX5 kf).1 (TX5 kf).2.1 (TX5 kf).2.2.1 ∈ TB)
    (kk : AW l G M d mc ms Q k n h lv (.ref (w + kf) :: st) pc') : AW l G M d mc ms Q k n h lv (.ref w :: st) pc := by
  refine aw_getf (ci := 5) (kf := kf) hd hn (by rw [hW.2.1]; exact ⟨rfl, rfl⟩) rfl inX5 (by omega) hw ?_
  rw [hW.2.1]
  obtain ⟨h1, h9⟩ := hk
  rcases (by omega : kf = 1 ∨ kf = 2 ∨ kf = 3 ∨ kf = 4 ∨ kf = 5 ∨ kf = 6 ∨ kf = 7 ∨ kf = 8 ∨ kf = 9) with rfl | rfl | rfl | rfl | rfl | rfl | rfl | rfl | rfl <;> exact kk
theorem aw_Wint {kf idx : Nat} (hW : WAt h w S) (hd : decode M.2.1 pc = .ok (.getfield idx, 3)) (hn : pc + 3 = pc') (hk : kf = 0 ∨ kf = 10 ∨ kf = 11 ∨ kf = 12 ∨ kf = 13) (hw : Cond.fieldLink M.1 idx (TX5 kf).1 (TX5 kf).2.1 (TX5 kf).2.2.1 ∈ TB)
    (kk : AW l G M d mc ms Q k n h lv (.int (S.2.1 kf) :: st) pc') : AW l G M d mc ms Q k n h lv (.ref w :: st) pc := by
  refine aw_getf (ci := 5) (kf := kf) hd hn (by rw [hW.2.1]; exact ⟨rfl, rfl⟩) rfl inX5 (by omega) hw ?_
  rw [hW.2.1]
  rcases hk with rfl | rfl | rfl | rfl | rfl <;> exact kk
theorem aw_Wsea {idx : Nat} (hW : WAt h w S) (hd : decode M.2.1 pc = .ok (.getfield idx, 3)) (hn : pc + 3 = pc') (hw : Cond.fieldLink M.1 idx (TX5 14).1 (TX5 14).2.1 (TX5 14).2.2.1 ∈ TB)
    (kk : AW l G M d mc ms Q k n h lv (S.2.2 :: st) pc') : AW l G M d mc ms Q k n h lv (.ref w :: st) pc := by
  refine aw_getf (ci := 5) (kf := 14) hd hn (by rw [hW.2.1]; exact ⟨rfl, rfl⟩) rfl inX5 (by omega) hw ?_
  rw [hW.2.1]
  exact kk
theorem aw_Wald {i : Int32} (kf : Nat) (hW : WAt h w S) (hd : decode M.2.1 pc = .ok (.iaload, 1)) (hn : pc + 1 = pc') (hk : 1 ≤ kf ∧ kf ≤ 9) (hi : vp_in i (wlen kf))
    (kk : AW l G M d mc ms Q k n h lv (.int (S.1 kf i.toNatClampNeg) :: st) pc') : AW l G M d mc ms Q k n h lv (.int i :: .ref (w + kf) :: st) pc := by
  obtain ⟨f, he, hf⟩ := hW.2.2.1 kf hk.1 hk.2
  refine aw_iaload hd hn (by rw [he]; rfl) (by rw [he]; exact hi) ?_
  rw [he]
  rw [← hf _ (Nat.not_le.mp fun q => hi (Or.inr q))] at kk
  exact kk
theorem aw_Wast {i x : Int32} (kf : Nat) (hW : WAt h w S) (hd : decode M.2.1 pc = .ok (.iastore, 1)) (hn : pc + 1 = pc') (hk : 1 ≤ kf ∧ kf ≤ 9) (hi : vp_in i (wlen kf))
    (kk : ∀ h', WAt h' w (wup S kf i.toNatClampNeg x) → Same w 10 h h' → AW l G M d mc ms Q k n h' lv st pc') : AW l G M d mc ms Q k n h lv (.int x :: .int i :: .ref (w + kf) :: st) pc := by
  obtain ⟨f, he, hf⟩ := hW.2.2.1 kf hk.1 hk.2
  have h16 := hW.1
  exact aw_iastore hd hn (by omega) (by rw [he]; rfl) (by rw [he]; exact hi) (kk _ (hW.up hk.1 hk.2) (Same.hset (by omega) (by omega)))
theorem aw_Wput {x : Int32} (kf : Nat) {idx : Nat} (hW : WAt h w S) (hd : decode M.2.1 pc = .ok (.putfield idx, 3)) (hn : pc + 3 = pc') (hk : kf = 10 ∨ kf = 11 ∨ kf = 12 ∨ kf = 13) (hw : Cond.fieldLink M.1 idx (TX5 kf).1 (TX5 kf).2.1 (TX5 kf).2.2.1 ∈ TB)
    (kk : ∀ h', WAt h' w (wsc S kf x) → Same w 10 h h' → AW l G M d mc ms Q k n h' lv st pc') : AW l G M d mc ms Q k n h lv (.int x :: .ref w :: st) pc := by
  refine aw_putf (ci := 5) (kf := kf) (ty0 := tyX5) hd hn (by rw [hW.2.1]; exact ⟨rfl, rfl⟩) rfl inX5 tyX5_ok nmX5 (by omega) hw (by rcases hk with rfl | rfl | rfl | rfl <;> rfl) (by rcases hk with rfl | rfl | rfl | rfl <;> trivial) (kk _ (hW.sc hk) (Same.hset (by omega) (by omega)))
theorem aw_Wpse {v : Value} {idx : Nat} (hW : WAt h w S) (hd : decode M.2.1 pc = .ok (.putfield idx, 3)) (hn : pc + 3 = pc') (hw : Cond.fieldLink M.1 idx (TX5 14).1 (TX5 14).2.1 (TX5 14).2.2.1 ∈ TB) (hv : zisr v)
    (kk : ∀ h', WAt h' w (wse S v) → Same w 10 h h' → AW l G M d mc ms Q k n h' lv st pc') : AW l G M d mc ms Q k n h lv (v :: .ref w :: st) pc := by
  refine aw_putf (ci := 5) (kf := 14) (ty0 := tyX5) hd hn (by rw [hW.2.1]; exact ⟨rfl, rfl⟩) rfl inX5 tyX5_ok nmX5 (by omega) hw rfl (by cases v <;> first | trivial | exact hv.elim) (kk _ (hW.se hv) (Same.hset (by omega) (by omega)))
/-- the model's fields and arrays -/
theorem aw_Mref {kf idx : Nat} (j : Nat) (hW : MAt h u U) (hd : decode M.2.1 pc = .ok (.getfield idx, 3)) (hn : pc + 3 = pc') (hk : kf < 28 ∧ msk kf = false) (hj : mof kf = j) (hw : Cond.fieldLink M.1 idx (TX7 kf).1 (TX7 kf).2.1 (TX7 kf).2.2.1 ∈ TB)
    (kk : AW l G M d mc ms Q k n h lv (.ref (u + j) :: st) pc') : AW l G M d mc ms Q k n h lv (.ref u :: st) pc := by
  refine aw_getf (ci := 7) (kf := kf) hd hn (by rw [hW.2.1]; exact ⟨rfl, rfl⟩) rfl inX7 hk.1 hw ?_
  rw [hW.2.1]
  subst hj
  obtain ⟨h1, h9⟩ := hk
  rcases (by simp [msk] at h9; omega : kf = 0 ∨ kf = 1 ∨ kf = 2 ∨ kf = 4 ∨ kf = 6 ∨ kf = 7 ∨ kf = 9 ∨ kf = 16 ∨ kf = 17 ∨ kf = 18 ∨ kf = 19 ∨ kf = 20 ∨ kf = 21 ∨ kf = 22 ∨ kf = 24 ∨ kf = 25 ∨ kf = 26 ∨ kf = 27) with rfl | rfl | rfl | rfl | rfl | rfl | rfl | rfl | rfl | rfl | rfl | rfl | rfl | rfl | rfl | rfl | rfl | rfl <;> exact kk
theorem aw_Mint {kf idx : Nat} (hW : MAt h u U) (hd : decode M.2.1 pc = .ok (.getfield idx, 3)) (hn : pc + 3 = pc') (hk : msk kf = true) (hw : Cond.fieldLink M.1 idx (TX7 kf).1 (TX7 kf).2.1 (TX7 kf).2.2.1 ∈ TB)
    (kk : AW l G M d mc ms Q k n h lv (.int (U.2.1 kf) :: st) pc') : AW l G M d mc ms Q k n h lv (.ref u :: st) pc := by
  have hk2 := msk_or hk
  refine aw_getf (ci := 7) (kf := kf) hd hn (by rw [hW.2.1]; exact ⟨rfl, rfl⟩) rfl inX7 (by omega) hw ?_
  rw [hW.2.1]
  rcases hk2 with rfl | rfl | rfl | rfl | rfl | rfl | rfl | rfl | rfl | rfl <;> exact kk
theorem aw_Mald {i : Int32} (j : Nat) (hW : MAt h u U) (hd : decode M.2.1 pc = .ok (.iaload, 1)) (hn : pc + 1 = pc') (hk : 1 ≤ j ∧ j ≤ 16 ∧ mkd j = 0) (hi : vp_in i (mlen j))
    (kk : AW l G M d mc ms Q k n h lv (.int (U.1 j i.toNatClampNeg) :: st) pc') : AW l G M d mc ms Q k n h lv (.int i :: .ref (u + j) :: st) pc := by
  obtain ⟨f, he, hf⟩ := hW.2.2.1 j hk.1 hk.2.1
  rw [hk.2.2] at he
  refine aw_iaload hd hn (by rw [he]; rfl) (by rw [he]; exact hi) ?_
  rw [he]
  rw [← hf _ (Nat.not_le.mp fun q => hi (Or.inr q))] at kk
  exact kk
theorem aw_Mcld {i : Int32} (j : Nat) (hW : MAt h u U) (hd : decode M.2.1 pc = .ok (.caload, 1)) (hn : pc + 1 = pc') (hk : j = 9 ∨ j = 10) (hi : vp_in i (mlen j))
    (kk : AW l G M d mc ms Q k n h lv (.int (U.1 j i.toNatClampNeg) :: st) pc') : AW l G M d mc ms Q k n h lv (.int i :: .ref (u + j) :: st) pc := by
  obtain ⟨f, he, hf⟩ := hW.2.2.1 j (by omega) (by omega)
  rw [show mkd j = 2 from if_pos hk] at he
  have h16 := hW.1
  refine aw_caload hd hn (by omega) (by rw [he]; rfl) (by rw [he]; exact hi) ?_
  rw [he]
  rw [← hf _ (Nat.not_le.mp fun q => hi (Or.inr q))] at kk
  exact kk
theorem aw_Mjld {i : Int32} (j : Nat) (hW : MAt h u U) (hd : decode M.2.1 pc = .ok (.laload, 1)) (hn : pc + 1 = pc') (hk : 17 ≤ j ∧ j ≤ 18) (hi : vp_in i (mlen j))
    (kk : AW l G M d mc ms Q k n h lv (.long (U.2.2 j i.toNatClampNeg) :: st) pc') : AW l G M d mc ms Q k n h lv (.int i :: .ref (u + j) :: st) pc := by
  obtain ⟨f, he, hf⟩ := hW.2.2.2 j hk.1 hk.2
  have h16 := hW.1
  refine aw_laload hd hn (by omega) (by rw [he]; rfl) (by rw [he]; exact hi) ?_
  rw [he]
  rw [← hf _ (Nat.not_le.mp fun q => hi (Or.inr q))] at kk
  exact kk
theorem aw_Mast {i x : Int32} (j : Nat) (hW : MAt h u U) (hd : decode M.2.1 pc = .ok (.iastore, 1)) (hn : pc + 1 = pc') (hk : 1 ≤ j ∧ j ≤ 16 ∧ mkd j = 0) (hi : vp_in i (mlen j))
    (kk : ∀ h', MAt h' u (mup U j i.toNatClampNeg x) → Same u 19 h h' → AW l G M d mc ms Q k n h' lv st pc') : AW l G M d mc ms Q k n h lv (.int x :: .int i :: .ref (u + j) :: st) pc := by
  obtain ⟨f, he, hf⟩ := hW.2.2.1 j hk.1 hk.2.1
  rw [hk.2.2] at he
  have h16 := hW.1
  have hj := hk.2.1
  exact aw_iastore hd hn (by omega) (by rw [he]; rfl) (by rw [he]; exact hi) (kk _ (hW.up hk.1 hk.2.1) (Same.hset (by omega) (by omega)))
theorem aw_Mjst {i : Int32} {x : Int64} (j : Nat) (hW : MAt h u U) (hd : decode M.2.1 pc = .ok (.lastore, 1)) (hn : pc + 1 = pc') (hk : 17 ≤ j ∧ j ≤ 18) (hi : vp_in i (mlen j))
    (kk : ∀ h', MAt h' u (mupL U j i.toNatClampNeg x) → Same u 19 h h' → AW l G M d mc ms Q k n h' lv st pc') : AW l G M d mc ms Q k n h lv (.long x :: .int i :: .ref (u + j) :: st) pc := by
  obtain ⟨f, he, hf⟩ := hW.2.2.2 j hk.1 hk.2
  have h16 := hW.1
  exact aw_lastore hd hn (by omega) (by rw [he]; rfl) (by rw [he]; exact hi) (kk _ (hW.upL hk.1 hk.2) (Same.hset (by omega) (by omega)))
theorem aw_Mput {x : Int32} (kf : Nat) {idx : Nat} (hW : MAt h u U) (hd : decode M.2.1 pc = .ok (.putfield idx, 3)) (hn : pc + 3 = pc') (hk : msk kf = true) (hz : kf = 3 ∨ kf = 12 → x = 0 ∨ x = 1) (hw : Cond.fieldLink M.1 idx (TX7 kf).1 (TX7 kf).2.1 (TX7 kf).2.2.1 ∈ TB)
    (kk : ∀ h', MAt h' u (msc U kf x) → Same u 19 h h' → AW l G M d mc ms Q k n h' lv st pc') : AW l G M d mc ms Q k n h lv (.int x :: .ref u :: st) pc := by
  have hk2 := msk_or hk
  refine aw_putf (ci := 7) (kf := kf) (ty0 := tyX7) hd hn (by rw [hW.2.1]; exact ⟨rfl, rfl⟩) rfl inX7 tyX7_ok nmX7 (by omega) hw (by rcases hk2 with rfl | rfl | rfl | rfl | rfl | rfl | rfl | rfl | rfl | rfl <;> rfl) (by rcases hk2 with rfl | rfl | rfl | rfl | rfl | rfl | rfl | rfl | rfl | rfl <;> first | trivial | exact hz (Or.inl rfl) | exact hz (Or.inr rfl)) (kk _ (hW.sc hk) (Same.hset (by omega) (by omega)))
end ZP
end
section
section ZP2
variable {l : Launch} {G : GT} {M : MT} {d mc ms k n pc pc' : Nat} {Q : Option Value → Hp → Prop} {h : Hp} {lv : LV} {st : List Value} {w u : Nat} {S : WT} {U : MS}
theorem aw_MaldC {i : Int32} (j c : Nat) (hW : MAt h u U) (hd : decode M.2.1 pc = .ok (.iaload, 1)) (hn : pc + 1 = pc') (hk : 1 ≤ j ∧ j ≤ 16 ∧ mkd j = 0) (hi : vp_in i (mlen j)) (hc : i.toNatClampNeg = c)
    (kk : AW l G M d mc ms Q k n h lv (.int (U.1 j c) :: st) pc') : AW l G M d mc ms Q k n h lv (.int i :: .ref (u + j) :: st) pc := by
  subst hc
  exact aw_Mald j hW hd hn hk hi kk
theorem aw_MastC {i x : Int32} (j c : Nat) (hW : MAt h u U) (hd : decode M.2.1 pc = .ok (.iastore, 1)) (hn : pc + 1 = pc') (hk : 1 ≤ j ∧ j ≤ 16 ∧ mkd j = 0) (hi : vp_in i (mlen j)) (hc : i.toNatClampNeg = c)
    (kk : ∀ h', MAt h' u (mup U j c x) → Same u 19 h h' → AW l G M d mc ms Q k n h' lv st pc') : AW l G M d mc ms Q k n h lv (.int x :: .int i :: .ref (u + j) :: st) pc := by
  subst hc
  exact aw_Mast j hW hd hn hk hi kk
end ZP2
end
section
/-! the model's small methods -/
def zb (b : Bool) : Int32 := if b then 1 else 0
def bIn (v lo hi : Int32) : Bool := decide (lo ≤ v) && decide (v ≤ hi)
theorem bIn_t {v lo hi : Int32} (h1 : ¬ v < lo) (h2 : ¬ hi < v) : (1 : Int32) = zb (bIn v lo hi) := by
  simp [zb, bIn, Int32.not_lt.mp h1, Int32.not_lt.mp h2]
theorem bIn_f1 {v lo hi : Int32} (h1 : v < lo) : (0 : Int32) = zb (bIn v lo hi) := by
  have : ¬ lo ≤ v := fun q => by have := Int32.not_le.mpr h1; exact this q
  simp [zb, bIn, this]
theorem bIn_f2 {v lo hi : Int32} (h2 : hi < v) : (0 : Int32) = zb (bIn v lo hi) := by
  have : ¬ v ≤ hi := Int32.not_le.mpr h2
  simp [zb, bIn, this]
theorem zb0 {b : Bool} (h : zb b = 0) : b = false := by cases b <;> first | rfl | (exfalso; revert h; decide)
theorem zb1 {b : Bool} (h : ¬ zb b = 0) : b = true := by cases b <;> first | rfl | (exfalso; revert h; decide)
theorem zb01 (b : Bool) : zb b = 0 ∨ zb b = 1 := by cases b <;> simp [zb]
theorem zbT {p : Prop} [Decidable p] (h : p) : (1 : Int32) = zb (decide p) := by simp [zb, h]
theorem zbF {p : Prop} [Decidable p] (h : ¬ p) : (0 : Int32) = zb (decide p) := by simp [zb, h]
theorem zbn (b : Bool) : narrow .boolean (.int (zb b)) = .int (zb b) := by cases b <;> rfl
abbrev mi (U : MS) (i what : Int32) : Int32 := U.1 1 (10 * i + what).toNatClampNeg
section M1
variable {l : Launch} {G : GT} {d u : Nat} {h : Hp} {U : MS}

abbrev mX7_isIn : MT := (RX7, cX7_isIn, 3, (some .boolean), false)
theorem eX7_isIn_0 : decode mX7_isIn.2.1 0 = .ok (.iload_n 0, 1) := by decide +kernel
theorem eX7_isIn_1 : decode mX7_isIn.2.1 1 = .ok (.iload_n 1, 1) := by decide +kernel
theorem eX7_isIn_2 : decode mX7_isIn.2.1 2 = .ok (.if_icmp .lt 12, 3) := by decide +kernel
theorem eX7_isIn_5 : decode mX7_isIn.2.1 5 = .ok (.iload_n 0, 1) := by decide +kernel
theorem eX7_isIn_6 : decode mX7_isIn.2.1 6 = .ok (.iload_n 2, 1) := by decide +kernel
theorem eX7_isIn_7 : decode mX7_isIn.2.1 7 = .ok (.if_icmp .gt 7, 3) := by decide +kernel
theorem eX7_isIn_10 : decode mX7_isIn.2.1 10 = .ok (.iconst 1, 1) := by decide +kernel
theorem eX7_isIn_11 : decode mX7_isIn.2.1 11 = .ok (.goto 4, 3) := by decide +kernel
theorem eX7_isIn_14 : decode mX7_isIn.2.1 14 = .ok (.iconst 0, 1) := by decide +kernel
theorem eX7_isIn_15 : decode mX7_isIn.2.1 15 = .ok (.ireturn, 1) := by decide +kernel
theorem c_X7_isIn (v lo hi : Int32) (hd : 0 ≤ d) : Ct l G mX7_isIn yX7_isIn d 0 0 [.int v, .int lo, .int hi] h (fun r h' => r = some (.int (zb (bIn v lo hi))) ∧ h' = h) := by
  refine ct_of (lv := [some (.int v), some (.int lo), some (.int hi)]) (by decide +kernel) rfl (fun z => by cases z) (fun _ => rfl) (fun _ => Nat.le_of_ble_eq_true rfl) ?_
  refine aw_iload_n (pc' := 1) eX7_isIn_0 rfl rfl ?_
  refine aw_iload_n (pc' := 2) eX7_isIn_1 rfl rfl ?_
  refine aw_icmp_lt (pc' := 5) (tgt := 14) eX7_isIn_2 rfl (by decide) (fun c_2 => ?_) (fun c_2 => ?_)
  · refine aw_iconst (pc' := 15) (v := 0) eX7_isIn_14 rfl (by decide) ?_
    refine aw_ret (v := some (.int _)) eX7_isIn_15 ⟨rfl, rfl⟩ (by omega) (by omega) rfl ?_
    exact ⟨by first | rw [← bIn_t (by assumption) (by assumption)] | rw [← bIn_f1 (by assumption)] | rw [← bIn_f2 (by assumption)], rfl⟩
  · refine aw_iload_n (pc' := 6) eX7_isIn_5 rfl rfl ?_
    refine aw_iload_n (pc' := 7) eX7_isIn_6 rfl rfl ?_
    refine aw_icmp_gt (pc' := 10) (tgt := 14) eX7_isIn_7 rfl (by decide) (fun c_7 => ?_) (fun c_7 => ?_)
    · refine aw_iconst (pc' := 15) (v := 0) eX7_isIn_14 rfl (by decide) ?_
      refine aw_ret (v := some (.int _)) eX7_isIn_15 ⟨rfl, rfl⟩ (by omega) (by omega) rfl ?_
      exact ⟨by first | rw [← bIn_t (by assumption) (by assumption)] | rw [← bIn_f1 (by assumption)] | rw [← bIn_f2 (by assumption)], rfl⟩
    · refine aw_iconst (pc' := 11) (v := 1) eX7_isIn_10 rfl (by decide) ?_
      refine aw_goto eX7_isIn_11 (by decide) (tgt := 15) ?_
      refine aw_ret (v := some (.int _)) eX7_isIn_15 ⟨rfl, rfl⟩ (by omega) (by omega) rfl ?_
      exact ⟨by first | rw [← bIn_t (by assumption) (by assumption)] | rw [← bIn_f1 (by assumption)] | rw [← bIn_f2 (by assumption)], rfl⟩
abbrev mX7_isPlace : MT := (RX7, cX7_isPlace, 1, (some .boolean), false)
theorem eX7_isPlace_0 : decode mX7_isPlace.2.1 0 = .ok (.iload_n 0, 1) := by decide +kernel
theorem eX7_isPlace_1 : decode mX7_isPlace.2.1 1 = .ok (.iconst 0, 1) := by decide +kernel
theorem eX7_isPlace_2 : decode mX7_isPlace.2.1 2 = .ok (.bipush 11, 2) := by decide +kernel
theorem eX7_isPlace_4 : decode mX7_isPlace.2.1 4 = .ok (.invokestatic 80, 3) := by decide +kernel
theorem eX7_isPlace_7 : decode mX7_isPlace.2.1 7 = .ok (.ireturn, 1) := by decide +kernel
theorem c_X7_isPlace (p : Int32) (hd : 1 ≤ d) : Ct l G mX7_isPlace yX7_isPlace d 0 0 [.int p] h (fun r h' => r = some (.int (zb (bIn p 0 11))) ∧ h' = h) := by
  refine ct_of (lv := [some (.int p)]) (by decide +kernel) rfl (fun z => by cases z) (fun _ => rfl) (fun _ => Nat.le_of_ble_eq_true rfl) ?_
  refine aw_iload_n (pc' := 1) eX7_isPlace_0 rfl rfl ?_
  refine aw_iconst (pc' := 2) (v := 0) eX7_isPlace_1 rfl (by decide) ?_
  refine aw_bipush (pc' := 4) (v := 11) eX7_isPlace_2 rfl (by decide) ?_
  refine aw_calls (pc' := 7) (nn := 3) (c_X7_isIn (d := d - 1) _ _ _ (by omega)) eX7_isPlace_4 rfl ⟨q890, q892, q62⟩ q891 ⟨by decide +kernel, by decide +kernel, by decide +kernel⟩ rfl ⟨by omega, by decide⟩ ⟨by omega, by omega⟩ rfl (Nat.le_of_ble_eq_true rfl) (fun v1 h2 hq3 => ?_)
  obtain ⟨rfl, rfl⟩ := hq3
  dsimp only [Option.toList, List.cons_append, List.nil_append]
  refine aw_ret (v := some (.int _)) eX7_isPlace_7 ⟨rfl, zbn _⟩ (by omega) (by omega) rfl ?_
  exact ⟨rfl, rfl⟩
abbrev mX7_isTape : MT := (RX7, cX7_isTape, 1, (some .boolean), false)
theorem eX7_isTape_0 : decode mX7_isTape.2.1 0 = .ok (.iload_n 0, 1) := by decide +kernel
theorem eX7_isTape_1 : decode mX7_isTape.2.1 1 = .ok (.iconst 0, 1) := by decide +kernel
theorem eX7_isTape_2 : decode mX7_isTape.2.1 2 = .ok (.iconst 5, 1) := by decide +kernel
theorem eX7_isTape_3 : decode mX7_isTape.2.1 3 = .ok (.invokestatic 80, 3) := by decide +kernel
theorem eX7_isTape_6 : decode mX7_isTape.2.1 6 = .ok (.ireturn, 1) := by decide +kernel
theorem c_X7_isTape (p : Int32) (hd : 1 ≤ d) : Ct l G mX7_isTape yX7_isTape d 0 0 [.int p] h (fun r h' => r = some (.int (zb (bIn p 0 5))) ∧ h' = h) := by
  refine ct_of (lv := [some (.int p)]) (by decide +kernel) rfl (fun z => by cases z) (fun _ => rfl) (fun _ => Nat.le_of_ble_eq_true rfl) ?_
  refine aw_iload_n (pc' := 1) eX7_isTape_0 rfl rfl ?_
  refine aw_iconst (pc' := 2) (v := 0) eX7_isTape_1 rfl (by decide) ?_
  refine aw_iconst (pc' := 3) (v := 5) eX7_isTape_2 rfl (by decide) ?_
  refine aw_calls (pc' := 6) (nn := 3) (c_X7_isIn (d := d - 1) _ _ _ (by omega)) eX7_isTape_3 rfl ⟨q890, q892, q62⟩ q891 ⟨by decide +kernel, by decide +kernel, by decide +kernel⟩ rfl ⟨by omega, by decide⟩ ⟨by omega, by omega⟩ rfl (Nat.le_of_ble_eq_true rfl) (fun v1 h2 hq3 => ?_)
  obtain ⟨rfl, rfl⟩ := hq3
  dsimp only [Option.toList, List.cons_append, List.nil_append]
  refine aw_ret (v := some (.int _)) eX7_isTape_6 ⟨rfl, zbn _⟩ (by omega) (by omega) rfl ?_
  exact ⟨rfl, rfl⟩
abbrev mX7_one : MT := (RX7, cX7_one, 3, (some .int), false)
theorem eX7_one_0 : decode mX7_one.2.1 0 = .ok (.aload_n 0, 1) := by decide +kernel
theorem eX7_one_1 : decode mX7_one.2.1 1 = .ok (.getfield 15, 3) := by decide +kernel
theorem eX7_one_4 : decode mX7_one.2.1 4 = .ok (.bipush 10, 2) := by decide +kernel
theorem eX7_one_6 : decode mX7_one.2.1 6 = .ok (.iload_n 1, 1) := by decide +kernel
theorem eX7_one_7 : decode mX7_one.2.1 7 = .ok (.imul, 1) := by decide +kernel
theorem eX7_one_8 : decode mX7_one.2.1 8 = .ok (.iload_n 2, 1) := by decide +kernel
theorem eX7_one_9 : decode mX7_one.2.1 9 = .ok (.iadd, 1) := by decide +kernel
theorem eX7_one_10 : decode mX7_one.2.1 10 = .ok (.iaload, 1) := by decide +kernel
theorem eX7_one_11 : decode mX7_one.2.1 11 = .ok (.ireturn, 1) := by decide +kernel
theorem c_X7_one (hM : MAt h u U) (i what : Int32) (hi : vp_in (10 * i + what) 123) (hd : 0 ≤ d) : Ct l G mX7_one yX7_one d 0 0 [.ref u, .int i, .int what] h (fun r h' => r = some (.int (mi U i what)) ∧ h' = h) := by
  refine ct_of (lv := [some (.ref u), some (.int i), some (.int what)]) (by decide +kernel) rfl (fun z => by cases z) (fun _ => rfl) (fun _ => Nat.le_of_ble_eq_true rfl) ?_
  refine aw_aload_n (pc' := 1) eX7_one_0 rfl rfl trivial ?_
  refine aw_Mref (pc' := 4) (kf := 0) 1 hM eX7_one_1 rfl (by decide) rfl q789 ?_
  refine aw_bipush (pc' := 6) (v := 10) eX7_one_4 rfl (by decide) ?_
  refine aw_iload_n (pc' := 7) eX7_one_6 rfl rfl ?_
  refine aw_imul (pc' := 8) eX7_one_7 rfl ?_
  refine aw_iload_n (pc' := 9) eX7_one_8 rfl rfl ?_
  refine aw_iadd (pc' := 10) eX7_one_9 rfl ?_
  refine aw_MaldC (pc' := 11) 1 _ hM eX7_one_10 rfl (by decide) (by assumption) rfl ?_
  refine aw_ret (v := some (.int _)) eX7_one_11 ⟨rfl, rfl⟩ (by omega) (by omega) rfl ?_
  exact ⟨rfl, rfl⟩
abbrev mX7_change : MT := (RX7, cX7_change, 5, (some .int), false)
theorem eX7_change_0 : decode mX7_change.2.1 0 = .ok (.aload_n 0, 1) := by decide +kernel
theorem eX7_change_1 : decode mX7_change.2.1 1 = .ok (.iload_n 1, 1) := by decide +kernel
theorem eX7_change_2 : decode mX7_change.2.1 2 = .ok (.iload_n 2, 1) := by decide +kernel
theorem eX7_change_3 : decode mX7_change.2.1 3 = .ok (.invokevirtual 84, 3) := by decide +kernel
theorem eX7_change_6 : decode mX7_change.2.1 6 = .ok (.istore 4, 2) := by decide +kernel
theorem eX7_change_8 : decode mX7_change.2.1 8 = .ok (.aload_n 0, 1) := by decide +kernel
theorem eX7_change_9 : decode mX7_change.2.1 9 = .ok (.getfield 15, 3) := by decide +kernel
theorem eX7_change_12 : decode mX7_change.2.1 12 = .ok (.bipush 10, 2) := by decide +kernel
theorem eX7_change_14 : decode mX7_change.2.1 14 = .ok (.iload_n 1, 1) := by decide +kernel
theorem eX7_change_15 : decode mX7_change.2.1 15 = .ok (.imul, 1) := by decide +kernel
theorem eX7_change_16 : decode mX7_change.2.1 16 = .ok (.iload_n 2, 1) := by decide +kernel
theorem eX7_change_17 : decode mX7_change.2.1 17 = .ok (.iadd, 1) := by decide +kernel
theorem eX7_change_18 : decode mX7_change.2.1 18 = .ok (.iload_n 3, 1) := by decide +kernel
theorem eX7_change_19 : decode mX7_change.2.1 19 = .ok (.iastore, 1) := by decide +kernel
theorem eX7_change_20 : decode mX7_change.2.1 20 = .ok (.iload 4, 2) := by decide +kernel
theorem eX7_change_22 : decode mX7_change.2.1 22 = .ok (.ireturn, 1) := by decide +kernel
theorem c_X7_change (hM : MAt h u U) (i what n : Int32) (hi : vp_in (10 * i + what) 123) (hd : 1 ≤ d) : Ct l G mX7_change yX7_change d 0 0 [.ref u, .int i, .int what, .int n] h (fun r h' => r = some (.int (mi U i what)) ∧ MAt h' u (mup U 1 (10 * i + what).toNatClampNeg n) ∧ Same u 19 h h') := by
  refine ct_of (lv := [some (.ref u), some (.int i), some (.int what), some (.int n), none]) (by decide +kernel) rfl (fun z => by cases z) (fun _ => rfl) (fun _ => Nat.le_of_ble_eq_true rfl) ?_
  refine aw_aload_n (pc' := 1) eX7_change_0 rfl rfl trivial ?_
  refine aw_iload_n (pc' := 2) eX7_change_1 rfl rfl ?_
  refine aw_iload_n (pc' := 3) eX7_change_2 rfl rfl ?_
  refine aw_callv (pc' := 6) (nn := 2) (c_X7_one (d := d - 1) hM _ _ (by assumption) (by omega)) eX7_change_3 rfl ⟨q901, q904, q62⟩ q903 q22 ⟨rfl, by decide +kernel, by decide +kernel, by decide +kernel⟩ rfl (by rw [hM.2.1]; exact ⟨rfl, rfl⟩) rfl ⟨by omega, by decide⟩ ⟨by omega, by omega⟩ rfl (Nat.le_of_ble_eq_true rfl) (fun v1 h2 hq3 => ?_)
  obtain ⟨rfl, rfl⟩ := hq3
  dsimp only [Option.toList, List.cons_append, List.nil_append]
  refine aw_istore (pc' := 8) eX7_change_6 rfl (by decide) ?_
  dsimp only [zst, zst2, zcut]
  refine aw_aload_n (pc' := 9) eX7_change_8 rfl rfl trivial ?_
  refine aw_Mref (pc' := 12) (kf := 0) 1 hM eX7_change_9 rfl (by decide) rfl q789 ?_
  refine aw_bipush (pc' := 14) (v := 10) eX7_change_12 rfl (by decide) ?_
  refine aw_iload_n (pc' := 15) eX7_change_14 rfl rfl ?_
  refine aw_imul (pc' := 16) eX7_change_15 rfl ?_
  refine aw_iload_n (pc' := 17) eX7_change_16 rfl rfl ?_
  refine aw_iadd (pc' := 18) eX7_change_17 rfl ?_
  refine aw_iload_n (pc' := 19) eX7_change_18 rfl rfl ?_
  refine aw_MastC (pc' := 20) 1 _ hM eX7_change_19 rfl (by decide) (by assumption) rfl (fun h6 hM4 hs5 => ?_)
  refine aw_iload (pc' := 22) eX7_change_20 rfl rfl ?_
  refine aw_ret (v := some (.int _)) eX7_change_22 ⟨rfl, rfl⟩ (by omega) (by omega) rfl ?_
  exact ⟨rfl, hM4, by assumption⟩
abbrev mX7_isAs : MT := (RX7, cX7_isAs, 3, (some .boolean), false)
theorem eX7_isAs_0 : decode mX7_isAs.2.1 0 = .ok (.aload_n 0, 1) := by decide +kernel
theorem eX7_isAs_1 : decode mX7_isAs.2.1 1 = .ok (.iload_n 1, 1) := by decide +kernel
theorem eX7_isAs_2 : decode mX7_isAs.2.1 2 = .ok (.iconst 3, 1) := by decide +kernel
theorem eX7_isAs_3 : decode mX7_isAs.2.1 3 = .ok (.invokevirtual 84, 3) := by decide +kernel
theorem eX7_isAs_6 : decode mX7_isAs.2.1 6 = .ok (.iload_n 2, 1) := by decide +kernel
theorem eX7_isAs_7 : decode mX7_isAs.2.1 7 = .ok (.if_icmp .ne 7, 3) := by decide +kernel
theorem eX7_isAs_10 : decode mX7_isAs.2.1 10 = .ok (.iconst 1, 1) := by decide +kernel
theorem eX7_isAs_11 : decode mX7_isAs.2.1 11 = .ok (.goto 4, 3) := by decide +kernel
theorem eX7_isAs_14 : decode mX7_isAs.2.1 14 = .ok (.iconst 0, 1) := by decide +kernel
theorem eX7_isAs_15 : decode mX7_isAs.2.1 15 = .ok (.ireturn, 1) := by decide +kernel
theorem c_X7_isAs (hM : MAt h u U) (i st : Int32) (hi : vp_in (10 * i + 3) 123) (hd : 1 ≤ d) : Ct l G mX7_isAs yX7_isAs d 0 0 [.ref u, .int i, .int st] h (fun r h' => r = some (.int (zb (decide (mi U i 3 = st)))) ∧ h' = h) := by
  refine ct_of (lv := [some (.ref u), some (.int i), some (.int st)]) (by decide +kernel) rfl (fun z => by cases z) (fun _ => rfl) (fun _ => Nat.le_of_ble_eq_true rfl) ?_
  refine aw_aload_n (pc' := 1) eX7_isAs_0 rfl rfl trivial ?_
  refine aw_iload_n (pc' := 2) eX7_isAs_1 rfl rfl ?_
  refine aw_iconst (pc' := 3) (v := 3) eX7_isAs_2 rfl (by decide) ?_
  refine aw_callv (pc' := 6) (nn := 2) (c_X7_one (d := d - 1) hM _ _ (by assumption) (by omega)) eX7_isAs_3 rfl ⟨q901, q904, q62⟩ q903 q22 ⟨rfl, by decide +kernel, by decide +kernel, by decide +kernel⟩ rfl (by rw [hM.2.1]; exact ⟨rfl, rfl⟩) rfl ⟨by omega, by decide⟩ ⟨by omega, by omega⟩ rfl (Nat.le_of_ble_eq_true rfl) (fun v1 h2 hq3 => ?_)
  obtain ⟨rfl, rfl⟩ := hq3
  dsimp only [Option.toList, List.cons_append, List.nil_append]
  refine aw_iload_n (pc' := 7) eX7_isAs_6 rfl rfl ?_
  refine aw_icmp_ne (pc' := 10) (tgt := 14) eX7_isAs_7 rfl (by decide) (fun c_7 => ?_) (fun c_7 => ?_)
  · refine aw_iconst (pc' := 15) (v := 0) eX7_isAs_14 rfl (by decide) ?_
    refine aw_ret (v := some (.int _)) eX7_isAs_15 ⟨rfl, rfl⟩ (by omega) (by omega) rfl ?_
    exact ⟨by first | rw [← zbT (by assumption)] | rw [← zbF (by assumption)], rfl⟩
  · refine aw_iconst (pc' := 11) (v := 1) eX7_isAs_10 rfl (by decide) ?_
    refine aw_goto eX7_isAs_11 (by decide) (tgt := 15) ?_
    refine aw_ret (v := some (.int _)) eX7_isAs_15 ⟨rfl, rfl⟩ (by omega) (by omega) rfl ?_
    exact ⟨by first | rw [← zbT (by assumption)] | rw [← zbF (by assumption)], rfl⟩
abbrev mX7_isOne : MT := (RX7, cX7_isOne, 2, (some .boolean), false)
theorem eX7_isOne_0 : decode mX7_isOne.2.1 0 = .ok (.iload_n 1, 1) := by decide +kernel
theorem eX7_isOne_1 : decode mX7_isOne.2.1 1 = .ok (.iconst 0, 1) := by decide +kernel
theorem eX7_isOne_2 : decode mX7_isOne.2.1 2 = .ok (.aload_n 0, 1) := by decide +kernel
theorem eX7_isOne_3 : decode mX7_isOne.2.1 3 = .ok (.getfield 15, 3) := by decide +kernel
theorem eX7_isOne_6 : decode mX7_isOne.2.1 6 = .ok (.bipush 60, 2) := by decide +kernel
theorem eX7_isOne_8 : decode mX7_isOne.2.1 8 = .ok (.iaload, 1) := by decide +kernel
theorem eX7_isOne_9 : decode mX7_isOne.2.1 9 = .ok (.iconst 1, 1) := by decide +kernel
theorem eX7_isOne_10 : decode mX7_isOne.2.1 10 = .ok (.isub, 1) := by decide +kernel
theorem eX7_isOne_11 : decode mX7_isOne.2.1 11 = .ok (.invokestatic 80, 3) := by decide +kernel
theorem eX7_isOne_14 : decode mX7_isOne.2.1 14 = .ok (.ireturn, 1) := by decide +kernel
theorem c_X7_isOne (hM : MAt h u U) (i : Int32) (hd : 1 ≤ d) : Ct l G mX7_isOne yX7_isOne d 0 0 [.ref u, .int i] h (fun r h' => r = some (.int (zb (bIn i 0 (U.1 1 60 - 1)))) ∧ h' = h) := by
  refine ct_of (lv := [some (.ref u), some (.int i)]) (by decide +kernel) rfl (fun z => by cases z) (fun _ => rfl) (fun _ => Nat.le_of_ble_eq_true rfl) ?_
  refine aw_iload_n (pc' := 1) eX7_isOne_0 rfl rfl ?_
  refine aw_iconst (pc' := 2) (v := 0) eX7_isOne_1 rfl (by decide) ?_
  refine aw_aload_n (pc' := 3) eX7_isOne_2 rfl rfl trivial ?_
  refine aw_Mref (pc' := 6) (kf := 0) 1 hM eX7_isOne_3 rfl (by decide) rfl q789 ?_
  refine aw_bipush (pc' := 8) (v := 60) eX7_isOne_6 rfl (by decide) ?_
  refine aw_MaldC (pc' := 9) 1 60 hM eX7_isOne_8 rfl (by decide) (by unfold vp_in; decide) (by decide) ?_
  refine aw_iconst (pc' := 10) (v := 1) eX7_isOne_9 rfl (by decide) ?_
  refine aw_isub (pc' := 11) eX7_isOne_10 rfl ?_
  refine aw_calls (pc' := 14) (nn := 3) (c_X7_isIn (d := d - 1) _ _ _ (by omega)) eX7_isOne_11 rfl ⟨q890, q892, q62⟩ q891 ⟨by decide +kernel, by decide +kernel, by decide +kernel⟩ rfl ⟨by omega, by decide⟩ ⟨by omega, by omega⟩ rfl (Nat.le_of_ble_eq_true rfl) (fun v1 h2 hq3 => ?_)
  obtain ⟨rfl, rfl⟩ := hq3
  dsimp only [Option.toList, List.cons_append, List.nil_append]
  refine aw_ret (v := some (.int _)) eX7_isOne_14 ⟨rfl, zbn _⟩ (by omega) (by omega) rfl ?_
  exact ⟨rfl, rfl⟩
end M1
end
section
/-! numbers -/
theorem zb_eq0 {b : Bool} : zb b = 0 ↔ b = false := by cases b <;> decide
theorem zb_ne0 {b : Bool} : ¬ zb b = 0 ↔ b = true := by cases b <;> decide
theorem zb_eq1 {b : Bool} : zb b = 1 ↔ b = true := by cases b <;> decide
theorem nIl (n : Nat) : (OfNat.ofNat n : Int32) = nI n := rfl
theorem nI_m1 {m : Nat} : nI (m + 1) - 1 = nI m := nI_pred m
/-- a number that is one of 0 .. N - 1 -/
theorem bIn_iff {t : Int32} {lo hi : Int32} : bIn t lo hi = true ↔ lo ≤ t ∧ t ≤ hi := by simp [bIn]
theorem bIn_toInt {t lo hi : Int32} : bIn t lo hi = true ↔ lo.toInt ≤ t.toInt ∧ t.toInt ≤ hi.toInt := by
  rw [bIn_iff, Int32.le_iff_toInt_le, Int32.le_iff_toInt_le]
theorem bIn_lit {t : Int32} {N : Nat} (hN : N < 2 ^ 31) : bIn t 0 (nI N) = true ↔ ∃ i, i ≤ N ∧ t = nI i := by
  rw [bIn_toInt, nI_toInt hN, show (0 : Int32).toInt = 0 from by decide]
  constructor
  · rintro ⟨h1, h2⟩
    refine ⟨t.toInt.toNat, by omega, ?_⟩
    apply Int32.toInt_inj.mp
    rw [nI_toInt (by omega)]
    omega
  · rintro ⟨i, hi, rfl⟩
    rw [nI_toInt (by omega)]
    omega
theorem bIn_one {t : Int32} {m : Nat} (hm : m ≤ 6) : bIn t 0 (nI m - 1) = true ↔ ∃ i, i < m ∧ t = nI i := by
  cases m with
  | zero =>
    rw [bIn_toInt, show (nI 0 - 1).toInt = -1 from by decide, show (0 : Int32).toInt = 0 from by decide]
    constructor
    · rintro ⟨h1, h2⟩; omega
    · rintro ⟨i, hi, -⟩; omega
  | succ k =>
    rw [nI_m1, bIn_lit (by omega)]
    constructor
    · rintro ⟨i, hi, h⟩; exact ⟨i, by omega, h⟩
    · rintro ⟨i, hi, h⟩; exact ⟨i, by omega, h⟩
theorem cl_nI {n : Nat} (h : n < 2 ^ 31) : (nI n).toNatClampNeg = n := nI_clamp h
theorem nI_muladd (a b c : Nat) : nI a * nI b + nI c = nI (a * b + c) := by rw [pk_mul, nI_add]
/-- places of the model's row -/
theorem ix10 {i c : Nat} (h : 10 * i + c < 123) : (10 * nI i + nI c).toNatClampNeg = 10 * i + c ∧ vp_in (10 * nI i + nI c) 123 := by
  have e : 10 * nI i + nI c = nI (10 * i + c) := nI_muladd 10 i c
  rw [e]
  exact ⟨nI_clamp (by omega), vp_in_nI h (by omega)⟩
theorem ix10c {i c : Nat} (h : 10 * i + c < 123) : (10 * nI i + nI c).toNatClampNeg = 10 * i + c := (ix10 h).1
theorem ix10v {i c : Nat} (h : 10 * i + c < 123) : vp_in (10 * nI i + nI c) 123 := (ix10 h).2
theorem ix10a {i : Nat} (h : 10 * i < 123) : (10 * nI i).toNatClampNeg = 10 * i ∧ vp_in (10 * nI i) 123 := by
  have e : 10 * nI i = nI (10 * i) := pk_mul 10 i
  rw [e]
  exact ⟨nI_clamp (by omega), vp_in_nI h (by omega)⟩
theorem vpl {n N : Nat} (h : n < N) (hN : N < 2 ^ 31) : vp_in (nI n) N := vp_in_nI h hN
theorem i32_nlt {a b : Int32} : ¬ a < b ↔ b ≤ a := Int32.not_lt
theorem i32_nle {a b : Int32} : ¬ a ≤ b ↔ b < a := Int32.not_le
theorem upd_eq (f : Nat → Int32) (i : Nat) (x : Int32) : upd f i x i = x := pk_us
theorem upd_ne {f : Nat → Int32} {i j : Nat} {x : Int32} (h : j ≠ i) : upd f i x j = f j := pk_un h
theorem upd_if (f : Nat → Int32) (i j : Nat) (x : Int32) : upd f i x j = if j = i then x else f j := rfl
/-- the model with another row 'now' -/
def mg (U : MS) (g : Nat → Int32) : MS := (fun j => if j = 1 then g else U.1 j, U.2.1, U.2.2)
theorem mup_mg (U : MS) (i : Nat) (x : Int32) : mup U 1 i x = mg U (upd (U.1 1) i x) := rfl
theorem mg_1 (U : MS) (g : Nat → Int32) : (mg U g).1 1 = g := by simp [mg]
theorem mg_mg (U : MS) (g g' : Nat → Int32) : mg (mg U g) g' = mg U g' := by
  unfold mg
  congr 1
  funext j
  by_cases h : j = 1 <;> simp [h]
theorem mg_id (U : MS) : mg U (U.1 1) = U := by
  unfold mg
  obtain ⟨a, b, c⟩ := U
  congr 1
  funext j
  by_cases h : j = 1
  · subst h; simp
  · simp [h]
theorem mg_ne {U : MS} {g : Nat → Int32} {j : Nat} (h : j ≠ 1) : (mg U g).1 j = U.1 j := by simp [mg, h]
theorem MAt.gx {h : Hp} {u : Nat} {U : MS} {g g' : Nat → Int32} (hM : MAt h u (mg U g)) (he : ∀ i, i < 123 → g i = g' i) : MAt h u (mg U g') := by
  refine hM.ext (A := (mg U g').1) fun j h1 h2 i hi => ?_
  by_cases hj : j = 1
  · subst hj
    rw [mg_1, mg_1]
    exact he i hi
  · rw [mg_ne hj, mg_ne hj]
end
section
/-! the model's calls on its row 'now' alone -/
section M2
variable {l : Launch} {G : GT} {d u : Nat} {h : Hp} {U : MS} {Q : Option Value → Hp → Prop}
/-- how many there are -/
def mOk (U : MS) (m : Nat) : Prop := U.1 1 60 = nI m ∧ m ≤ 6
theorem mOk_one {U : MS} {m : Nat} (hm : mOk U m) (t : Int32) : bIn t 0 (U.1 1 60 - 1) = true ↔ ∃ i, i < m ∧ t = nI i := by
  rw [hm.1]; exact bIn_one hm.2
theorem nI_inc (i : Nat) : nI i + Int32.ofInt 1 = nI (i + 1) := nI_1 i
theorem ge_nI {a b : Nat} (ha : a < 2 ^ 31) (hb : b < 2 ^ 31) (c : nI a ≥ nI b) : b ≤ a := (nI_leI hb ha).mp c
theorem nge_nI {a b : Nat} (ha : a < 2 ^ 31) (hb : b < 2 ^ 31) (c : ¬ nI a ≥ nI b) : a < b := Nat.not_le.mp fun q => c ((nI_leI hb ha).mpr q)

def sSays (g : Nat → Int32) (i : Nat) : Nat → Int32 := if g (10 * i + 3) = 0 then upd (upd g (10 * i + 3) 1) (10 * i + 4) 0 else g
abbrev mX7_says : MT := (RX7, cX7_says, 2, none, false)
theorem eX7_says_0 : decode mX7_says.2.1 0 = .ok (.aload_n 0, 1) := by decide +kernel
theorem eX7_says_1 : decode mX7_says.2.1 1 = .ok (.iload_n 1, 1) := by decide +kernel
theorem eX7_says_2 : decode mX7_says.2.1 2 = .ok (.iconst 0, 1) := by decide +kernel
theorem eX7_says_3 : decode mX7_says.2.1 3 = .ok (.invokevirtual 105, 3) := by decide +kernel
theorem eX7_says_6 : decode mX7_says.2.1 6 = .ok (.ifCond .eq 19, 3) := by decide +kernel
theorem eX7_says_9 : decode mX7_says.2.1 9 = .ok (.aload_n 0, 1) := by decide +kernel
theorem eX7_says_10 : decode mX7_says.2.1 10 = .ok (.iload_n 1, 1) := by decide +kernel
theorem eX7_says_11 : decode mX7_says.2.1 11 = .ok (.iconst 3, 1) := by decide +kernel
theorem eX7_says_12 : decode mX7_says.2.1 12 = .ok (.iconst 1, 1) := by decide +kernel
theorem eX7_says_13 : decode mX7_says.2.1 13 = .ok (.invokevirtual 109, 3) := by decide +kernel
theorem eX7_says_16 : decode mX7_says.2.1 16 = .ok (.pop, 1) := by decide +kernel
theorem eX7_says_17 : decode mX7_says.2.1 17 = .ok (.aload_n 0, 1) := by decide +kernel
theorem eX7_says_18 : decode mX7_says.2.1 18 = .ok (.iload_n 1, 1) := by decide +kernel
theorem eX7_says_19 : decode mX7_says.2.1 19 = .ok (.iconst 4, 1) := by decide +kernel
theorem eX7_says_20 : decode mX7_says.2.1 20 = .ok (.iconst 0, 1) := by decide +kernel
theorem eX7_says_21 : decode mX7_says.2.1 21 = .ok (.invokevirtual 109, 3) := by decide +kernel
theorem eX7_says_24 : decode mX7_says.2.1 24 = .ok (.pop, 1) := by decide +kernel
theorem eX7_says_25 : decode mX7_says.2.1 25 = .ok (.return_, 1) := by decide +kernel
theorem c_X7_says (hM : MAt h u U) (i : Nat) (hi : i < 12) (hd : 3 ≤ d) : Ct l G mX7_says yX7_says d 0 0 [.ref u, .int (nI i)] h (fun r h' => r = none ∧ MAt h' u (mg U (sSays (U.1 1) i)) ∧ Same u 19 h h') := by
  refine ct_of (lv := [some (.ref u), some (.int (nI i))]) (by decide +kernel) rfl (fun z => by cases z) (fun _ => rfl) (fun _ => Nat.le_of_ble_eq_true rfl) ?_
  have hx3 : (10 * nI i + 3).toNatClampNeg = 10 * i + 3 := ix10c (c := 3) (by omega)
  have hx4 : (10 * nI i + 4).toNatClampNeg = 10 * i + 4 := ix10c (c := 4) (by omega)
  refine aw_aload_n (pc' := 1) eX7_says_0 rfl rfl trivial ?_
  refine aw_iload_n (pc' := 2) eX7_says_1 rfl rfl ?_
  refine aw_iconst (pc' := 3) (v := 0) eX7_says_2 rfl (by decide) ?_
  refine aw_callv (pc' := 6) (nn := 2) (c_X7_isAs (d := d - 1) hM _ _ (show vp_in (10 * nI i + 3) 123 from ix10v (c := 3) (by omega)) (by omega)) eX7_says_3 rfl ⟨q957, q960, q62⟩ q959 q36 ⟨rfl, by decide +kernel, by decide +kernel, by decide +kernel⟩ rfl (by rw [hM.2.1]; exact ⟨rfl, rfl⟩) rfl ⟨by omega, by decide⟩ ⟨by omega, by omega⟩ rfl (Nat.le_of_ble_eq_true rfl) (fun v1 h2 hq3 => ?_)
  obtain ⟨rfl, rfl⟩ := hq3
  dsimp only [Option.toList, List.cons_append, List.nil_append]
  refine aw_if_eq (pc' := 9) (tgt := 25) eX7_says_6 rfl (by decide) (fun c_6 => ?_) (fun c_6 => ?_)
  · refine aw_ret (v := none) eX7_says_25 rfl (by omega) (by omega) rfl ?_
    refine ⟨rfl, ?_, Same.rf⟩
    simp only [zb_eq0, Bool.not_eq_false, decide_eq_true_eq, decide_eq_false_iff_not, Decidable.not_not, mi, hx3] at c_6
    have hM9 := hM
    try simp only [hx3, hx4, mup_mg, mg_mg, mg_1] at hM9
    first | rw [sSays, if_pos c_6] | rw [sSays, if_neg c_6, mg_id]
    exact hM9
  · refine aw_aload_n (pc' := 10) eX7_says_9 rfl rfl trivial ?_
    refine aw_iload_n (pc' := 11) eX7_says_10 rfl rfl ?_
    refine aw_iconst (pc' := 12) (v := 3) eX7_says_11 rfl (by decide) ?_
    refine aw_iconst (pc' := 13) (v := 1) eX7_says_12 rfl (by decide) ?_
    refine aw_callv (pc' := 16) (nn := 3) (c_X7_change (d := d - 1) hM _ _ _ (show vp_in (10 * nI i + 3) 123 from ix10v (c := 3) (by omega)) (by omega)) eX7_says_13 rfl ⟨q986, q989, q62⟩ q988 q43 ⟨rfl, by decide +kernel, by decide +kernel, by decide +kernel⟩ rfl (by rw [hM.2.1]; exact ⟨rfl, rfl⟩) rfl ⟨by omega, by decide⟩ ⟨by omega, by omega⟩ rfl (Nat.le_of_ble_eq_true rfl) (fun v6 h7 hq8 => ?_)
    obtain ⟨rfl, hM4, hs5⟩ := hq8
    dsimp only [Option.toList, List.cons_append, List.nil_append]
    refine aw_pop (pc' := 17) eX7_says_16 rfl rfl ?_
    refine aw_aload_n (pc' := 18) eX7_says_17 rfl rfl trivial ?_
    refine aw_iload_n (pc' := 19) eX7_says_18 rfl rfl ?_
    refine aw_iconst (pc' := 20) (v := 4) eX7_says_19 rfl (by decide) ?_
    refine aw_iconst (pc' := 21) (v := 0) eX7_says_20 rfl (by decide) ?_
    refine aw_callv (pc' := 24) (nn := 3) (c_X7_change (d := d - 1) hM4 _ _ _ (show vp_in (10 * nI i + 4) 123 from ix10v (c := 4) (by omega)) (by omega)) eX7_says_21 rfl ⟨q986, q989, q62⟩ q988 q43 ⟨rfl, by decide +kernel, by decide +kernel, by decide +kernel⟩ rfl (by rw [hM4.2.1]; exact ⟨rfl, rfl⟩) rfl ⟨by omega, by decide⟩ ⟨by omega, by omega⟩ rfl (Nat.le_of_ble_eq_true rfl) (fun v11 h12 hq13 => ?_)
    obtain ⟨rfl, hM9, hs10⟩ := hq13
    have hT14 := hs5.tr hs10
    dsimp only [Option.toList, List.cons_append, List.nil_append]
    refine aw_pop (pc' := 25) eX7_says_24 rfl rfl ?_
    refine aw_ret (v := none) eX7_says_25 rfl (by omega) (by omega) rfl ?_
    refine ⟨rfl, ?_, hT14⟩
    simp only [zb_eq0, Bool.not_eq_false, decide_eq_true_eq, decide_eq_false_iff_not, Decidable.not_not, mi, hx3] at c_6
    have hM9 := hM9
    try simp only [hx3, hx4, mup_mg, mg_mg, mg_1] at hM9
    first | rw [sSays, if_pos c_6] | rw [sSays, if_neg c_6, mg_id]
    exact hM9
def sCnt (g : Nat → Int32) (s : Int32) : Nat → Int32
  | 0 => 0
  | i + 1 => sCnt g s i + zb (decide (g (10 * i + 3) = s))
abbrev mX7_howMany : MT := (RX7, cX7_howMany, 4, (some .int), false)
theorem eX7_howMany_0 : decode mX7_howMany.2.1 0 = .ok (.iconst 0, 1) := by decide +kernel
theorem eX7_howMany_1 : decode mX7_howMany.2.1 1 = .ok (.istore_n 2, 1) := by decide +kernel
theorem eX7_howMany_2 : decode mX7_howMany.2.1 2 = .ok (.iconst 0, 1) := by decide +kernel
theorem eX7_howMany_3 : decode mX7_howMany.2.1 3 = .ok (.istore_n 3, 1) := by decide +kernel
theorem eX7_howMany_4 : decode mX7_howMany.2.1 4 = .ok (.iload_n 3, 1) := by decide +kernel
theorem eX7_howMany_5 : decode mX7_howMany.2.1 5 = .ok (.aload_n 0, 1) := by decide +kernel
theorem eX7_howMany_6 : decode mX7_howMany.2.1 6 = .ok (.getfield 15, 3) := by decide +kernel
theorem eX7_howMany_9 : decode mX7_howMany.2.1 9 = .ok (.bipush 60, 2) := by decide +kernel
theorem eX7_howMany_11 : decode mX7_howMany.2.1 11 = .ok (.iaload, 1) := by decide +kernel
theorem eX7_howMany_12 : decode mX7_howMany.2.1 12 = .ok (.if_icmp .ge 26, 3) := by decide +kernel
theorem eX7_howMany_15 : decode mX7_howMany.2.1 15 = .ok (.iload_n 2, 1) := by decide +kernel
theorem eX7_howMany_16 : decode mX7_howMany.2.1 16 = .ok (.aload_n 0, 1) := by decide +kernel
theorem eX7_howMany_17 : decode mX7_howMany.2.1 17 = .ok (.iload_n 3, 1) := by decide +kernel
theorem eX7_howMany_18 : decode mX7_howMany.2.1 18 = .ok (.iload_n 1, 1) := by decide +kernel
theorem eX7_howMany_19 : decode mX7_howMany.2.1 19 = .ok (.invokevirtual 105, 3) := by decide +kernel
theorem eX7_howMany_22 : decode mX7_howMany.2.1 22 = .ok (.ifCond .eq 7, 3) := by decide +kernel
theorem eX7_howMany_25 : decode mX7_howMany.2.1 25 = .ok (.iconst 1, 1) := by decide +kernel
theorem eX7_howMany_26 : decode mX7_howMany.2.1 26 = .ok (.goto 4, 3) := by decide +kernel
theorem eX7_howMany_29 : decode mX7_howMany.2.1 29 = .ok (.iconst 0, 1) := by decide +kernel
theorem eX7_howMany_30 : decode mX7_howMany.2.1 30 = .ok (.iadd, 1) := by decide +kernel
theorem eX7_howMany_31 : decode mX7_howMany.2.1 31 = .ok (.istore_n 2, 1) := by decide +kernel
theorem eX7_howMany_32 : decode mX7_howMany.2.1 32 = .ok (.iinc 3 1, 3) := by decide +kernel
theorem eX7_howMany_35 : decode mX7_howMany.2.1 35 = .ok (.goto (-31), 3) := by decide +kernel
theorem eX7_howMany_38 : decode mX7_howMany.2.1 38 = .ok (.iload_n 2, 1) := by decide +kernel
theorem eX7_howMany_39 : decode mX7_howMany.2.1 39 = .ok (.ireturn, 1) := by decide +kernel
theorem lp_X7_howMany (hM : MAt h u U) {m : Nat} (hm : mOk U m) (s : Int32) (hd : 2 ≤ d) (hQ : Q (some (.int (sCnt (U.1 1) s m))) h) : ∀ (k i : Nat) (x y : Int32), k = m - i → i ≤ m → x = sCnt (U.1 1) s i → y = nI i → AW l G mX7_howMany d 0 0 Q 0 0 h [some (.ref u), some (.int s), some (.int x), some (.int y)] [] 4 := by
  intro k
  induction k using Nat.strongRecOn with
  | _ k ih =>
    intro i x y hk hi hx hy
    subst hx
    subst hy
    have hm6 := hm.2
    have hx3 : (10 * nI i + 3).toNatClampNeg = 10 * i + 3 := ix10c (c := 3) (by omega)
    refine aw_iload_n (pc' := 5) eX7_howMany_4 rfl rfl ?_
    refine aw_aload_n (pc' := 6) eX7_howMany_5 rfl rfl trivial ?_
    refine aw_Mref (pc' := 9) (kf := 0) 1 hM eX7_howMany_6 rfl (by decide) rfl q789 ?_
    refine aw_bipush (pc' := 11) (v := 60) eX7_howMany_9 rfl (by decide) ?_
    refine aw_MaldC (pc' := 12) 1 60 hM eX7_howMany_11 rfl (by decide) (by unfold vp_in; decide) (by decide) ?_
    refine aw_icmp_ge (pc' := 15) (tgt := 38) eX7_howMany_12 rfl (by decide) (fun c_12 => ?_) (fun c_12 => ?_)
    · rw [hm.1] at c_12
      have c9 := ge_nI (by omega) (by omega) c_12
      obtain rfl : i = m := by omega
      refine aw_iload_n (pc' := 39) eX7_howMany_38 rfl rfl ?_
      refine aw_ret (v := some (.int _)) eX7_howMany_39 ⟨rfl, rfl⟩ (by omega) (by omega) rfl ?_
      exact hQ
    · rw [hm.1] at c_12
      have c9 := nge_nI (by omega) (by omega) c_12
      refine aw_iload_n (pc' := 16) eX7_howMany_15 rfl rfl ?_
      refine aw_aload_n (pc' := 17) eX7_howMany_16 rfl rfl trivial ?_
      refine aw_iload_n (pc' := 18) eX7_howMany_17 rfl rfl ?_
      refine aw_iload_n (pc' := 19) eX7_howMany_18 rfl rfl ?_
      refine aw_callv (pc' := 22) (nn := 2) (c_X7_isAs (d := d - 1) hM _ _ (show vp_in (10 * nI i + 3) 123 from ix10v (c := 3) (by omega)) (by omega)) eX7_howMany_19 rfl ⟨q957, q960, q62⟩ q959 q36 ⟨rfl, by decide +kernel, by decide +kernel, by decide +kernel⟩ rfl (by rw [hM.2.1]; exact ⟨rfl, rfl⟩) rfl ⟨by omega, by decide⟩ ⟨by omega, by omega⟩ rfl (Nat.le_of_ble_eq_true rfl) (fun v1 h2 hq3 => ?_)
      obtain ⟨rfl, rfl⟩ := hq3
      dsimp only [Option.toList, List.cons_append, List.nil_append]
      refine aw_if_eq (pc' := 25) (tgt := 29) eX7_howMany_22 rfl (by decide) (fun c_22 => ?_) (fun c_22 => ?_)
      · refine aw_iconst (pc' := 30) (v := 0) eX7_howMany_29 rfl (by decide) ?_
        refine aw_iadd (pc' := 31) eX7_howMany_30 rfl ?_
        refine aw_istore_n (pc' := 32) eX7_howMany_31 rfl (by decide) ?_
        dsimp only [zst, zst2, zcut]
        refine aw_iinc (pc' := 35) eX7_howMany_32 rfl rfl rfl (by decide) ?_
        dsimp only [zst, zst2, zcut]
        refine aw_goto eX7_howMany_35 (by decide) (tgt := 4) ?_
        exact ih (m - (i + 1)) (by omega) (i + 1) _ _ rfl (by omega) (by simp only [mi, hx3, zb_eq0, Bool.not_eq_false] at c_22; rw [sCnt, c_22]; rfl) (nI_inc i)
      · refine aw_iconst (pc' := 26) (v := 1) eX7_howMany_25 rfl (by decide) ?_
        refine aw_goto eX7_howMany_26 (by decide) (tgt := 30) ?_
        refine aw_iadd (pc' := 31) eX7_howMany_30 rfl ?_
        refine aw_istore_n (pc' := 32) eX7_howMany_31 rfl (by decide) ?_
        dsimp only [zst, zst2, zcut]
        refine aw_iinc (pc' := 35) eX7_howMany_32 rfl rfl rfl (by decide) ?_
        dsimp only [zst, zst2, zcut]
        refine aw_goto eX7_howMany_35 (by decide) (tgt := 4) ?_
        exact ih (m - (i + 1)) (by omega) (i + 1) _ _ rfl (by omega) (by simp only [mi, hx3, zb_eq0, Bool.not_eq_false] at c_22; rw [sCnt, c_22]; rfl) (nI_inc i)
theorem c_X7_howMany (hM : MAt h u U) {m : Nat} (hm : mOk U m) (s : Int32) (hd : 2 ≤ d) : Ct l G mX7_howMany yX7_howMany d 0 0 [.ref u, .int s] h (fun r h' => r = some (.int (sCnt (U.1 1) s m)) ∧ h' = h) := by
  refine ct_of (lv := [some (.ref u), some (.int s), none, none]) (by decide +kernel) rfl (fun z => by cases z) (fun _ => rfl) (fun _ => Nat.le_of_ble_eq_true rfl) ?_
  refine aw_iconst (pc' := 1) (v := 0) eX7_howMany_0 rfl (by decide) ?_
  refine aw_istore_n (pc' := 2) eX7_howMany_1 rfl (by decide) ?_
  dsimp only [zst, zst2, zcut]
  refine aw_iconst (pc' := 3) (v := 0) eX7_howMany_2 rfl (by decide) ?_
  refine aw_istore_n (pc' := 4) eX7_howMany_3 rfl (by decide) ?_
  dsimp only [zst, zst2, zcut]
  exact lp_X7_howMany hM hm s hd ⟨rfl, rfl⟩ m 0 _ _ (by omega) (by omega) rfl rfl
def sWhich (g : Nat → Int32) (s : Int32) : Nat → Int32
  | 0 => 0
  | i + 1 => sWhich g s i ||| (if g (10 * i + 3) = s then 1 <<< (nI i &&& 31) else 0)
abbrev mX7_which : MT := (RX7, cX7_which, 4, (some .int), false)
theorem eX7_which_0 : decode mX7_which.2.1 0 = .ok (.iconst 0, 1) := by decide +kernel
theorem eX7_which_1 : decode mX7_which.2.1 1 = .ok (.istore_n 2, 1) := by decide +kernel
theorem eX7_which_2 : decode mX7_which.2.1 2 = .ok (.iconst 0, 1) := by decide +kernel
theorem eX7_which_3 : decode mX7_which.2.1 3 = .ok (.istore_n 3, 1) := by decide +kernel
theorem eX7_which_4 : decode mX7_which.2.1 4 = .ok (.iload_n 3, 1) := by decide +kernel
theorem eX7_which_5 : decode mX7_which.2.1 5 = .ok (.aload_n 0, 1) := by decide +kernel
theorem eX7_which_6 : decode mX7_which.2.1 6 = .ok (.getfield 15, 3) := by decide +kernel
theorem eX7_which_9 : decode mX7_which.2.1 9 = .ok (.bipush 60, 2) := by decide +kernel
theorem eX7_which_11 : decode mX7_which.2.1 11 = .ok (.iaload, 1) := by decide +kernel
theorem eX7_which_12 : decode mX7_which.2.1 12 = .ok (.if_icmp .ge 28, 3) := by decide +kernel
theorem eX7_which_15 : decode mX7_which.2.1 15 = .ok (.iload_n 2, 1) := by decide +kernel
theorem eX7_which_16 : decode mX7_which.2.1 16 = .ok (.aload_n 0, 1) := by decide +kernel
theorem eX7_which_17 : decode mX7_which.2.1 17 = .ok (.iload_n 3, 1) := by decide +kernel
theorem eX7_which_18 : decode mX7_which.2.1 18 = .ok (.iload_n 1, 1) := by decide +kernel
theorem eX7_which_19 : decode mX7_which.2.1 19 = .ok (.invokevirtual 105, 3) := by decide +kernel
theorem eX7_which_22 : decode mX7_which.2.1 22 = .ok (.ifCond .eq 9, 3) := by decide +kernel
theorem eX7_which_25 : decode mX7_which.2.1 25 = .ok (.iconst 1, 1) := by decide +kernel
theorem eX7_which_26 : decode mX7_which.2.1 26 = .ok (.iload_n 3, 1) := by decide +kernel
theorem eX7_which_27 : decode mX7_which.2.1 27 = .ok (.ishl, 1) := by decide +kernel
theorem eX7_which_28 : decode mX7_which.2.1 28 = .ok (.goto 4, 3) := by decide +kernel
theorem eX7_which_31 : decode mX7_which.2.1 31 = .ok (.iconst 0, 1) := by decide +kernel
theorem eX7_which_32 : decode mX7_which.2.1 32 = .ok (.ior, 1) := by decide +kernel
theorem eX7_which_33 : decode mX7_which.2.1 33 = .ok (.istore_n 2, 1) := by decide +kernel
theorem eX7_which_34 : decode mX7_which.2.1 34 = .ok (.iinc 3 1, 3) := by decide +kernel
theorem eX7_which_37 : decode mX7_which.2.1 37 = .ok (.goto (-33), 3) := by decide +kernel
theorem eX7_which_40 : decode mX7_which.2.1 40 = .ok (.iload_n 2, 1) := by decide +kernel
theorem eX7_which_41 : decode mX7_which.2.1 41 = .ok (.ireturn, 1) := by decide +kernel
theorem lp_X7_which (hM : MAt h u U) {m : Nat} (hm : mOk U m) (s : Int32) (hd : 2 ≤ d) (hQ : Q (some (.int (sWhich (U.1 1) s m))) h) : ∀ (k i : Nat) (x y : Int32), k = m - i → i ≤ m → x = sWhich (U.1 1) s i → y = nI i → AW l G mX7_which d 0 0 Q 0 0 h [some (.ref u), some (.int s), some (.int x), some (.int y)] [] 4 := by
  intro k
  induction k using Nat.strongRecOn with
  | _ k ih =>
    intro i x y hk hi hx hy
    subst hx
    subst hy
    have hm6 := hm.2
    have hx3 : (10 * nI i + 3).toNatClampNeg = 10 * i + 3 := ix10c (c := 3) (by omega)
    refine aw_iload_n (pc' := 5) eX7_which_4 rfl rfl ?_
    refine aw_aload_n (pc' := 6) eX7_which_5 rfl rfl trivial ?_
    refine aw_Mref (pc' := 9) (kf := 0) 1 hM eX7_which_6 rfl (by decide) rfl q789 ?_
    refine aw_bipush (pc' := 11) (v := 60) eX7_which_9 rfl (by decide) ?_
    refine aw_MaldC (pc' := 12) 1 60 hM eX7_which_11 rfl (by decide) (by unfold vp_in; decide) (by decide) ?_
    refine aw_icmp_ge (pc' := 15) (tgt := 40) eX7_which_12 rfl (by decide) (fun c_12 => ?_) (fun c_12 => ?_)
    · rw [hm.1] at c_12
      have c9 := ge_nI (by omega) (by omega) c_12
      obtain rfl : i = m := by omega
      refine aw_iload_n (pc' := 41) eX7_which_40 rfl rfl ?_
      refine aw_ret (v := some (.int _)) eX7_which_41 ⟨rfl, rfl⟩ (by omega) (by omega) rfl ?_
      exact hQ
    · rw [hm.1] at c_12
      have c9 := nge_nI (by omega) (by omega) c_12
      refine aw_iload_n (pc' := 16) eX7_which_15 rfl rfl ?_
      refine aw_aload_n (pc' := 17) eX7_which_16 rfl rfl trivial ?_
      refine aw_iload_n (pc' := 18) eX7_which_17 rfl rfl ?_
      refine aw_iload_n (pc' := 19) eX7_which_18 rfl rfl ?_
      refine aw_callv (pc' := 22) (nn := 2) (c_X7_isAs (d := d - 1) hM _ _ (show vp_in (10 * nI i + 3) 123 from ix10v (c := 3) (by omega)) (by omega)) eX7_which_19 rfl ⟨q957, q960, q62⟩ q959 q36 ⟨rfl, by decide +kernel, by decide +kernel, by decide +kernel⟩ rfl (by rw [hM.2.1]; exact ⟨rfl, rfl⟩) rfl ⟨by omega, by decide⟩ ⟨by omega, by omega⟩ rfl (Nat.le_of_ble_eq_true rfl) (fun v1 h2 hq3 => ?_)
      obtain ⟨rfl, rfl⟩ := hq3
      dsimp only [Option.toList, List.cons_append, List.nil_append]
      refine aw_if_eq (pc' := 25) (tgt := 31) eX7_which_22 rfl (by decide) (fun c_22 => ?_) (fun c_22 => ?_)
      · refine aw_iconst (pc' := 32) (v := 0) eX7_which_31 rfl (by decide) ?_
        refine aw_ior (pc' := 33) eX7_which_32 rfl ?_
        refine aw_istore_n (pc' := 34) eX7_which_33 rfl (by decide) ?_
        dsimp only [zst, zst2, zcut]
        refine aw_iinc (pc' := 37) eX7_which_34 rfl rfl rfl (by decide) ?_
        dsimp only [zst, zst2, zcut]
        refine aw_goto eX7_which_37 (by decide) (tgt := 4) ?_
        exact ih (m - (i + 1)) (by omega) (i + 1) _ _ rfl (by omega) (by simp only [mi, hx3, zb_eq0, Bool.not_eq_false, decide_eq_true_eq, decide_eq_false_iff_not, Decidable.not_not] at c_22; rw [sWhich]; first | rw [if_pos c_22] | rw [if_neg c_22]) (nI_inc i)
      · refine aw_iconst (pc' := 26) (v := 1) eX7_which_25 rfl (by decide) ?_
        refine aw_iload_n (pc' := 27) eX7_which_26 rfl rfl ?_
        refine aw_ishl (pc' := 28) eX7_which_27 rfl ?_
        refine aw_goto eX7_which_28 (by decide) (tgt := 32) ?_
        refine aw_ior (pc' := 33) eX7_which_32 rfl ?_
        refine aw_istore_n (pc' := 34) eX7_which_33 rfl (by decide) ?_
        dsimp only [zst, zst2, zcut]
        refine aw_iinc (pc' := 37) eX7_which_34 rfl rfl rfl (by decide) ?_
        dsimp only [zst, zst2, zcut]
        refine aw_goto eX7_which_37 (by decide) (tgt := 4) ?_
        exact ih (m - (i + 1)) (by omega) (i + 1) _ _ rfl (by omega) (by simp only [mi, hx3, zb_eq0, Bool.not_eq_false, decide_eq_true_eq, decide_eq_false_iff_not, Decidable.not_not] at c_22; rw [sWhich]; first | rw [if_pos c_22] | rw [if_neg c_22]) (nI_inc i)
theorem c_X7_which (hM : MAt h u U) {m : Nat} (hm : mOk U m) (s : Int32) (hd : 2 ≤ d) : Ct l G mX7_which yX7_which d 0 0 [.ref u, .int s] h (fun r h' => r = some (.int (sWhich (U.1 1) s m)) ∧ h' = h) := by
  refine ct_of (lv := [some (.ref u), some (.int s), none, none]) (by decide +kernel) rfl (fun z => by cases z) (fun _ => rfl) (fun _ => Nat.le_of_ble_eq_true rfl) ?_
  refine aw_iconst (pc' := 1) (v := 0) eX7_which_0 rfl (by decide) ?_
  refine aw_istore_n (pc' := 2) eX7_which_1 rfl (by decide) ?_
  dsimp only [zst, zst2, zcut]
  refine aw_iconst (pc' := 3) (v := 0) eX7_which_2 rfl (by decide) ?_
  refine aw_istore_n (pc' := 4) eX7_which_3 rfl (by decide) ?_
  dsimp only [zst, zst2, zcut]
  exact lp_X7_which hM hm s hd ⟨rfl, rfl⟩ m 0 _ _ (by omega) (by omega) rfl rfl
def sLate (n : Int32) : Int32 := if n = -5 then 1000 else n
abbrev mX7_late : MT := (RX7, cX7_late, 1, (some .int), false)
theorem eX7_late_0 : decode mX7_late.2.1 0 = .ok (.iload_n 0, 1) := by decide +kernel
theorem eX7_late_1 : decode mX7_late.2.1 1 = .ok (.bipush (-5), 2) := by decide +kernel
theorem eX7_late_3 : decode mX7_late.2.1 3 = .ok (.if_icmp .ne 9, 3) := by decide +kernel
theorem eX7_late_6 : decode mX7_late.2.1 6 = .ok (.sipush 1000, 3) := by decide +kernel
theorem eX7_late_9 : decode mX7_late.2.1 9 = .ok (.goto 4, 3) := by decide +kernel
theorem eX7_late_12 : decode mX7_late.2.1 12 = .ok (.iload_n 0, 1) := by decide +kernel
theorem eX7_late_13 : decode mX7_late.2.1 13 = .ok (.ireturn, 1) := by decide +kernel
theorem c_X7_late (n : Int32) (hd : 0 ≤ d) : Ct l G mX7_late yX7_late d 0 0 [.int n] h (fun r h' => r = some (.int (sLate n)) ∧ h' = h) := by
  refine ct_of (lv := [some (.int n)]) (by decide +kernel) rfl (fun z => by cases z) (fun _ => rfl) (fun _ => Nat.le_of_ble_eq_true rfl) ?_
  refine aw_iload_n (pc' := 1) eX7_late_0 rfl rfl ?_
  refine aw_bipush (pc' := 3) (v := -5) eX7_late_1 rfl (by decide) ?_
  refine aw_icmp_ne (pc' := 6) (tgt := 12) eX7_late_3 rfl (by decide) (fun c_3 => ?_) (fun c_3 => ?_)
  · refine aw_iload_n (pc' := 13) eX7_late_12 rfl rfl ?_
    refine aw_ret (v := some (.int _)) eX7_late_13 ⟨rfl, rfl⟩ (by omega) (by omega) rfl ?_
    exact ⟨by simp only [sLate]; first | rw [if_pos (by assumption)] | rw [if_neg (by assumption)], rfl⟩
  · refine aw_sipush (pc' := 9) (v := 1000) eX7_late_6 rfl (by decide) ?_
    refine aw_goto eX7_late_9 (by decide) (tgt := 13) ?_
    refine aw_ret (v := some (.int _)) eX7_late_13 ⟨rfl, rfl⟩ (by omega) (by omega) rfl ?_
    exact ⟨by simp only [sLate]; first | rw [if_pos (by assumption)] | rw [if_neg (by assumption)], rfl⟩
end M2
end
section
/-! the model's calls on its row 'now' alone, as the law has them -/
section M3
variable {l : Launch} {G : GT} {d u : Nat} {h : Hp} {U : MS} {Q : Option Value → Hp → Prop}

def sWeigh (g : Nat → Int32) (m : Nat) (t n : Int32) : Int32 × (Nat → Int32) :=
  if bIn t 0 (nI m - 1) = true then if bIn n 0 20 = true then (g (10 * t.toNatClampNeg + 2), upd g (10 * t.toNatClampNeg + 2) n) else (-2, g) else (-1, g)
abbrev mX7_weigh : MT := (RX7, cX7_weigh, 3, (some .int), false)
theorem eX7_weigh_0 : decode mX7_weigh.2.1 0 = .ok (.aload_n 0, 1) := by decide +kernel
theorem eX7_weigh_1 : decode mX7_weigh.2.1 1 = .ok (.iload_n 1, 1) := by decide +kernel
theorem eX7_weigh_2 : decode mX7_weigh.2.1 2 = .ok (.invokevirtual 88, 3) := by decide +kernel
theorem eX7_weigh_5 : decode mX7_weigh.2.1 5 = .ok (.ifCond .ne 5, 3) := by decide +kernel
theorem eX7_weigh_8 : decode mX7_weigh.2.1 8 = .ok (.iconst (-1), 1) := by decide +kernel
theorem eX7_weigh_9 : decode mX7_weigh.2.1 9 = .ok (.ireturn, 1) := by decide +kernel
theorem eX7_weigh_10 : decode mX7_weigh.2.1 10 = .ok (.iload_n 2, 1) := by decide +kernel
theorem eX7_weigh_11 : decode mX7_weigh.2.1 11 = .ok (.iconst 0, 1) := by decide +kernel
theorem eX7_weigh_12 : decode mX7_weigh.2.1 12 = .ok (.bipush 20, 2) := by decide +kernel
theorem eX7_weigh_14 : decode mX7_weigh.2.1 14 = .ok (.invokestatic 80, 3) := by decide +kernel
theorem eX7_weigh_17 : decode mX7_weigh.2.1 17 = .ok (.ifCond .eq 13, 3) := by decide +kernel
theorem eX7_weigh_20 : decode mX7_weigh.2.1 20 = .ok (.aload_n 0, 1) := by decide +kernel
theorem eX7_weigh_21 : decode mX7_weigh.2.1 21 = .ok (.iload_n 1, 1) := by decide +kernel
theorem eX7_weigh_22 : decode mX7_weigh.2.1 22 = .ok (.iconst 2, 1) := by decide +kernel
theorem eX7_weigh_23 : decode mX7_weigh.2.1 23 = .ok (.iload_n 2, 1) := by decide +kernel
theorem eX7_weigh_24 : decode mX7_weigh.2.1 24 = .ok (.invokevirtual 109, 3) := by decide +kernel
theorem eX7_weigh_27 : decode mX7_weigh.2.1 27 = .ok (.goto 5, 3) := by decide +kernel
theorem eX7_weigh_30 : decode mX7_weigh.2.1 30 = .ok (.bipush (-2), 2) := by decide +kernel
theorem eX7_weigh_32 : decode mX7_weigh.2.1 32 = .ok (.ireturn, 1) := by decide +kernel
theorem c_X7_weigh (hM : MAt h u U) {m : Nat} (hm : mOk U m) (t n : Int32) (hd : 3 ≤ d) : Ct l G mX7_weigh yX7_weigh d 0 0 [.ref u, .int t, .int n] h (fun r h' => r = some (.int (sWeigh (U.1 1) m t n).1) ∧ MAt h' u (mg U (sWeigh (U.1 1) m t n).2) ∧ Same u 19 h h') := by
  refine ct_of (lv := [some (.ref u), some (.int t), some (.int n)]) (by decide +kernel) rfl (fun z => by cases z) (fun _ => rfl) (fun _ => Nat.le_of_ble_eq_true rfl) ?_
  refine aw_aload_n (pc' := 1) eX7_weigh_0 rfl rfl trivial ?_
  refine aw_iload_n (pc' := 2) eX7_weigh_1 rfl rfl ?_
  refine aw_callv (pc' := 5) (nn := 1) (c_X7_isOne (d := d - 1) hM _ (by omega)) eX7_weigh_2 rfl ⟨q897, q900, q62⟩ q899 q21 ⟨rfl, by decide +kernel, by decide +kernel, by decide +kernel⟩ rfl (by rw [hM.2.1]; exact ⟨rfl, rfl⟩) rfl ⟨by omega, by decide⟩ ⟨by omega, by omega⟩ rfl (Nat.le_of_ble_eq_true rfl) (fun v1 h2 hq3 => ?_)
  obtain ⟨rfl, rfl⟩ := hq3
  dsimp only [Option.toList, List.cons_append, List.nil_append]
  refine aw_if_ne (pc' := 8) (tgt := 10) eX7_weigh_5 rfl (by decide) (fun c_5 => ?_) (fun c_5 => ?_)
  · simp only [zb_eq0, Bool.not_eq_false, Bool.not_eq_true, decide_eq_true_eq, decide_eq_false_iff_not, Decidable.not_not] at c_5
    rw [hm.1] at c_5
    obtain ⟨i, hi, rfl⟩ := (bIn_one hm.2).mp c_5
    have hm6 := hm.2
    have cli : (nI i).toNatClampNeg = i := nI_clamp (by omega)
    have hx2 : (10 * nI i + 2).toNatClampNeg = 10 * i + 2 := ix10c (c := 2) (by omega)
    refine aw_iload_n (pc' := 11) eX7_weigh_10 rfl rfl ?_
    refine aw_iconst (pc' := 12) (v := 0) eX7_weigh_11 rfl (by decide) ?_
    refine aw_bipush (pc' := 14) (v := 20) eX7_weigh_12 rfl (by decide) ?_
    refine aw_calls (pc' := 17) (nn := 3) (c_X7_isIn (d := d - 1) _ _ _ (by omega)) eX7_weigh_14 rfl ⟨q890, q892, q62⟩ q891 ⟨by decide +kernel, by decide +kernel, by decide +kernel⟩ rfl ⟨by omega, by decide⟩ ⟨by omega, by omega⟩ rfl (Nat.le_of_ble_eq_true rfl) (fun v4 h5 hq6 => ?_)
    obtain ⟨rfl, rfl⟩ := hq6
    dsimp only [Option.toList, List.cons_append, List.nil_append]
    refine aw_if_eq (pc' := 20) (tgt := 30) eX7_weigh_17 rfl (by decide) (fun c_17 => ?_) (fun c_17 => ?_)
    · refine aw_bipush (pc' := 32) (v := -2) eX7_weigh_30 rfl (by decide) ?_
      refine aw_ret (v := some (.int _)) eX7_weigh_32 ⟨rfl, rfl⟩ (by omega) (by omega) rfl ?_
      try simp only [zb_eq0, Bool.not_eq_false, Bool.not_eq_true, decide_eq_true_eq, decide_eq_false_iff_not, Decidable.not_not, hm.1, mi, hx2] at c_5 c_17
      have hM9 := hM
      try simp only [mi, hx2, mup_mg, mg_mg, mg_1] at hM9
      refine ⟨?_, ?_, Same.rf⟩
      · simp [sWeigh, mi, hm.1, hx2, cli, c_5, c_17]
      · simpa [sWeigh, mg_id, hm.1, hx2, cli, c_5, c_17] using hM9
    · refine aw_aload_n (pc' := 21) eX7_weigh_20 rfl rfl trivial ?_
      refine aw_iload_n (pc' := 22) eX7_weigh_21 rfl rfl ?_
      refine aw_iconst (pc' := 23) (v := 2) eX7_weigh_22 rfl (by decide) ?_
      refine aw_iload_n (pc' := 24) eX7_weigh_23 rfl rfl ?_
      refine aw_callv (pc' := 27) (nn := 3) (c_X7_change (d := d - 1) hM _ _ _ (show vp_in (10 * nI i + 2) 123 from ix10v (c := 2) (by omega)) (by omega)) eX7_weigh_24 rfl ⟨q986, q989, q62⟩ q988 q43 ⟨rfl, by decide +kernel, by decide +kernel, by decide +kernel⟩ rfl (by rw [hM.2.1]; exact ⟨rfl, rfl⟩) rfl ⟨by omega, by decide⟩ ⟨by omega, by omega⟩ rfl (Nat.le_of_ble_eq_true rfl) (fun v9 h10 hq11 => ?_)
      obtain ⟨rfl, hM7, hs8⟩ := hq11
      dsimp only [Option.toList, List.cons_append, List.nil_append]
      refine aw_goto eX7_weigh_27 (by decide) (tgt := 32) ?_
      refine aw_ret (v := some (.int _)) eX7_weigh_32 ⟨rfl, rfl⟩ (by omega) (by omega) rfl ?_
      try simp only [zb_eq0, Bool.not_eq_false, Bool.not_eq_true, decide_eq_true_eq, decide_eq_false_iff_not, Decidable.not_not, hm.1, mi, hx2] at c_5 c_17
      have hM9 := hM7
      try simp only [mi, hx2, mup_mg, mg_mg, mg_1] at hM9
      refine ⟨?_, ?_, hs8⟩
      · simp [sWeigh, mi, hm.1, hx2, cli, c_5, c_17]
      · simpa [sWeigh, mg_id, hm.1, hx2, cli, c_5, c_17] using hM9
  · refine aw_iconst (pc' := 9) (v := -1) eX7_weigh_8 rfl (by decide) ?_
    refine aw_ret (v := some (.int _)) eX7_weigh_9 ⟨rfl, rfl⟩ (by omega) (by omega) rfl ?_
    try simp only [zb_eq0, Bool.not_eq_false, Bool.not_eq_true, decide_eq_true_eq, decide_eq_false_iff_not, Decidable.not_not, hm.1, mi] at c_5
    have hM9 := hM
    try simp only [mi, mup_mg, mg_mg, mg_1] at hM9
    refine ⟨?_, ?_, Same.rf⟩
    · simp [sWeigh, mi, hm.1, c_5]
    · simpa [sWeigh, mg_id, hm.1, c_5] using hM9
theorem mup1 (U : MS) (i : Nat) (x : Int32) : (mup U 1 i x).1 1 = upd (U.1 1) i x := by simp [mup]
theorem ix3 {c a b : Nat} (h : c + b * a < 123) : (nI c + nI b * nI a).toNatClampNeg = c + b * a ∧ vp_in (nI c + nI b * nI a) 123 := by
  rw [pk_mul, nI_add]
  exact ⟨nI_clamp (by omega), vp_in_nI h (by omega)⟩
theorem ixa {c a : Nat} (h : c + a < 123) : (nI c + nI a).toNatClampNeg = c + a ∧ vp_in (nI c + nI a) 123 := by
  rw [nI_add]
  exact ⟨nI_clamp (by omega), vp_in_nI h (by omega)⟩
def sPut (g : Nat → Int32) (m : Nat) (t p s : Int32) : Int32 × (Nat → Int32) :=
  if bIn t 0 (nI m - 1) = true ∧ bIn p 0 11 = true then if bIn s 2 4 = true then (g (10 * t.toNatClampNeg + 3), upd (upd g (10 * t.toNatClampNeg + 5) p) (10 * t.toNatClampNeg + 3) s) else (-2, g) else (-1, g)
abbrev mX7_put : MT := (RX7, cX7_put, 4, (some .int), false)
theorem eX7_put_0 : decode mX7_put.2.1 0 = .ok (.aload_n 0, 1) := by decide +kernel
theorem eX7_put_1 : decode mX7_put.2.1 1 = .ok (.iload_n 1, 1) := by decide +kernel
theorem eX7_put_2 : decode mX7_put.2.1 2 = .ok (.invokevirtual 88, 3) := by decide +kernel
theorem eX7_put_5 : decode mX7_put.2.1 5 = .ok (.ifCond .eq 10, 3) := by decide +kernel
theorem eX7_put_8 : decode mX7_put.2.1 8 = .ok (.iload_n 2, 1) := by decide +kernel
theorem eX7_put_9 : decode mX7_put.2.1 9 = .ok (.invokestatic 120, 3) := by decide +kernel
theorem eX7_put_12 : decode mX7_put.2.1 12 = .ok (.ifCond .ne 5, 3) := by decide +kernel
theorem eX7_put_15 : decode mX7_put.2.1 15 = .ok (.iconst (-1), 1) := by decide +kernel
theorem eX7_put_16 : decode mX7_put.2.1 16 = .ok (.ireturn, 1) := by decide +kernel
theorem eX7_put_17 : decode mX7_put.2.1 17 = .ok (.iload_n 3, 1) := by decide +kernel
theorem eX7_put_18 : decode mX7_put.2.1 18 = .ok (.iconst 2, 1) := by decide +kernel
theorem eX7_put_19 : decode mX7_put.2.1 19 = .ok (.iconst 4, 1) := by decide +kernel
theorem eX7_put_20 : decode mX7_put.2.1 20 = .ok (.invokestatic 80, 3) := by decide +kernel
theorem eX7_put_23 : decode mX7_put.2.1 23 = .ok (.ifCond .ne 6, 3) := by decide +kernel
theorem eX7_put_26 : decode mX7_put.2.1 26 = .ok (.bipush (-2), 2) := by decide +kernel
theorem eX7_put_28 : decode mX7_put.2.1 28 = .ok (.ireturn, 1) := by decide +kernel
theorem eX7_put_29 : decode mX7_put.2.1 29 = .ok (.aload_n 0, 1) := by decide +kernel
theorem eX7_put_30 : decode mX7_put.2.1 30 = .ok (.iload_n 1, 1) := by decide +kernel
theorem eX7_put_31 : decode mX7_put.2.1 31 = .ok (.iconst 5, 1) := by decide +kernel
theorem eX7_put_32 : decode mX7_put.2.1 32 = .ok (.iload_n 2, 1) := by decide +kernel
theorem eX7_put_33 : decode mX7_put.2.1 33 = .ok (.invokevirtual 109, 3) := by decide +kernel
theorem eX7_put_36 : decode mX7_put.2.1 36 = .ok (.pop, 1) := by decide +kernel
theorem eX7_put_37 : decode mX7_put.2.1 37 = .ok (.aload_n 0, 1) := by decide +kernel
theorem eX7_put_38 : decode mX7_put.2.1 38 = .ok (.iload_n 1, 1) := by decide +kernel
theorem eX7_put_39 : decode mX7_put.2.1 39 = .ok (.iconst 3, 1) := by decide +kernel
theorem eX7_put_40 : decode mX7_put.2.1 40 = .ok (.iload_n 3, 1) := by decide +kernel
theorem eX7_put_41 : decode mX7_put.2.1 41 = .ok (.invokevirtual 109, 3) := by decide +kernel
theorem eX7_put_44 : decode mX7_put.2.1 44 = .ok (.ireturn, 1) := by decide +kernel
theorem c_X7_put (hM : MAt h u U) {m : Nat} (hm : mOk U m) (t p s : Int32) (hd : 3 ≤ d) : Ct l G mX7_put yX7_put d 0 0 [.ref u, .int t, .int p, .int s] h (fun r h' => r = some (.int (sPut (U.1 1) m t p s).1) ∧ MAt h' u (mg U (sPut (U.1 1) m t p s).2) ∧ Same u 19 h h') := by
  refine ct_of (lv := [some (.ref u), some (.int t), some (.int p), some (.int s)]) (by decide +kernel) rfl (fun z => by cases z) (fun _ => rfl) (fun _ => Nat.le_of_ble_eq_true rfl) ?_
  refine aw_aload_n (pc' := 1) eX7_put_0 rfl rfl trivial ?_
  refine aw_iload_n (pc' := 2) eX7_put_1 rfl rfl ?_
  refine aw_callv (pc' := 5) (nn := 1) (c_X7_isOne (d := d - 1) hM _ (by omega)) eX7_put_2 rfl ⟨q897, q900, q62⟩ q899 q21 ⟨rfl, by decide +kernel, by decide +kernel, by decide +kernel⟩ rfl (by rw [hM.2.1]; exact ⟨rfl, rfl⟩) rfl ⟨by omega, by decide⟩ ⟨by omega, by omega⟩ rfl (Nat.le_of_ble_eq_true rfl) (fun v1 h2 hq3 => ?_)
  obtain ⟨rfl, rfl⟩ := hq3
  dsimp only [Option.toList, List.cons_append, List.nil_append]
  refine aw_if_eq (pc' := 8) (tgt := 15) eX7_put_5 rfl (by decide) (fun c_5 => ?_) (fun c_5 => ?_)
  · refine aw_iconst (pc' := 16) (v := -1) eX7_put_15 rfl (by decide) ?_
    refine aw_ret (v := some (.int _)) eX7_put_16 ⟨rfl, rfl⟩ (by omega) (by omega) rfl ?_
    try simp only [zb_eq0, Bool.not_eq_false, Bool.not_eq_true, decide_eq_true_eq, decide_eq_false_iff_not, Decidable.not_not, hm.1, mi] at c_5
    have hM9 := hM
    try simp only [mi, mup_mg, mg_mg, mg_1] at hM9
    refine ⟨?_, ?_, Same.rf⟩
    · simp [sPut, mi, hm.1, c_5]
    · simpa [sPut, mg_id, hm.1, c_5] using hM9
  · simp only [zb_eq0, Bool.not_eq_false, Bool.not_eq_true, decide_eq_true_eq, decide_eq_false_iff_not, Decidable.not_not] at c_5
    rw [hm.1] at c_5
    obtain ⟨i, hi, rfl⟩ := (bIn_one hm.2).mp c_5
    have hm6 := hm.2
    have cli : (nI i).toNatClampNeg = i := nI_clamp (by omega)
    have hx3 : (10 * nI i + 3).toNatClampNeg = 10 * i + 3 := ix10c (c := 3) (by omega)
    have hx5 : (10 * nI i + 5).toNatClampNeg = 10 * i + 5 := ix10c (c := 5) (by omega)
    refine aw_iload_n (pc' := 9) eX7_put_8 rfl rfl ?_
    refine aw_calls (pc' := 12) (nn := 1) (c_X7_isPlace (d := d - 1) _ (by omega)) eX7_put_9 rfl ⟨q1017, q1019, q62⟩ q1018 ⟨by decide +kernel, by decide +kernel, by decide +kernel⟩ rfl ⟨by omega, by decide⟩ ⟨by omega, by omega⟩ rfl (Nat.le_of_ble_eq_true rfl) (fun v4 h5 hq6 => ?_)
    obtain ⟨rfl, rfl⟩ := hq6
    dsimp only [Option.toList, List.cons_append, List.nil_append]
    refine aw_if_ne (pc' := 15) (tgt := 17) eX7_put_12 rfl (by decide) (fun c_12 => ?_) (fun c_12 => ?_)
    · refine aw_iload_n (pc' := 18) eX7_put_17 rfl rfl ?_
      refine aw_iconst (pc' := 19) (v := 2) eX7_put_18 rfl (by decide) ?_
      refine aw_iconst (pc' := 20) (v := 4) eX7_put_19 rfl (by decide) ?_
      refine aw_calls (pc' := 23) (nn := 3) (c_X7_isIn (d := d - 1) _ _ _ (by omega)) eX7_put_20 rfl ⟨q890, q892, q62⟩ q891 ⟨by decide +kernel, by decide +kernel, by decide +kernel⟩ rfl ⟨by omega, by decide⟩ ⟨by omega, by omega⟩ rfl (Nat.le_of_ble_eq_true rfl) (fun v7 h8 hq9 => ?_)
      obtain ⟨rfl, rfl⟩ := hq9
      dsimp only [Option.toList, List.cons_append, List.nil_append]
      refine aw_if_ne (pc' := 26) (tgt := 29) eX7_put_23 rfl (by decide) (fun c_23 => ?_) (fun c_23 => ?_)
      · refine aw_aload_n (pc' := 30) eX7_put_29 rfl rfl trivial ?_
        refine aw_iload_n (pc' := 31) eX7_put_30 rfl rfl ?_
        refine aw_iconst (pc' := 32) (v := 5) eX7_put_31 rfl (by decide) ?_
        refine aw_iload_n (pc' := 33) eX7_put_32 rfl rfl ?_
        refine aw_callv (pc' := 36) (nn := 3) (c_X7_change (d := d - 1) hM _ _ _ (show vp_in (10 * nI i + 5) 123 from ix10v (c := 5) (by omega)) (by omega)) eX7_put_33 rfl ⟨q986, q989, q62⟩ q988 q43 ⟨rfl, by decide +kernel, by decide +kernel, by decide +kernel⟩ rfl (by rw [hM.2.1]; exact ⟨rfl, rfl⟩) rfl ⟨by omega, by decide⟩ ⟨by omega, by omega⟩ rfl (Nat.le_of_ble_eq_true rfl) (fun v12 h13 hq14 => ?_)
        obtain ⟨rfl, hM10, hs11⟩ := hq14
        dsimp only [Option.toList, List.cons_append, List.nil_append]
        refine aw_pop (pc' := 37) eX7_put_36 rfl rfl ?_
        refine aw_aload_n (pc' := 38) eX7_put_37 rfl rfl trivial ?_
        refine aw_iload_n (pc' := 39) eX7_put_38 rfl rfl ?_
        refine aw_iconst (pc' := 40) (v := 3) eX7_put_39 rfl (by decide) ?_
        refine aw_iload_n (pc' := 41) eX7_put_40 rfl rfl ?_
        refine aw_callv (pc' := 44) (nn := 3) (c_X7_change (d := d - 1) hM10 _ _ _ (show vp_in (10 * nI i + 3) 123 from ix10v (c := 3) (by omega)) (by omega)) eX7_put_41 rfl ⟨q986, q989, q62⟩ q988 q43 ⟨rfl, by decide +kernel, by decide +kernel, by decide +kernel⟩ rfl (by rw [hM10.2.1]; exact ⟨rfl, rfl⟩) rfl ⟨by omega, by decide⟩ ⟨by omega, by omega⟩ rfl (Nat.le_of_ble_eq_true rfl) (fun v17 h18 hq19 => ?_)
        obtain ⟨rfl, hM15, hs16⟩ := hq19
        have hT20 := hs11.tr hs16
        dsimp only [Option.toList, List.cons_append, List.nil_append]
        refine aw_ret (v := some (.int _)) eX7_put_44 ⟨rfl, rfl⟩ (by omega) (by omega) rfl ?_
        try simp only [zb_eq0, Bool.not_eq_false, Bool.not_eq_true, decide_eq_true_eq, decide_eq_false_iff_not, Decidable.not_not, hm.1, mi, hx3, hx5] at c_5 c_12 c_23
        have hM9 := hM15
        try simp only [mi, hx3, hx5, mup_mg, mg_mg, mg_1] at hM9
        refine ⟨?_, ?_, hT20⟩
        · simp [sPut, mi, hm.1, hx3, hx5, cli, mup1, upd_if, c_5, c_12, c_23]
        · simpa [sPut, mg_id, hm.1, hx3, hx5, cli, mup1, upd_if, c_5, c_12, c_23] using hM9
      · refine aw_bipush (pc' := 28) (v := -2) eX7_put_26 rfl (by decide) ?_
        refine aw_ret (v := some (.int _)) eX7_put_28 ⟨rfl, rfl⟩ (by omega) (by omega) rfl ?_
        try simp only [zb_eq0, Bool.not_eq_false, Bool.not_eq_true, decide_eq_true_eq, decide_eq_false_iff_not, Decidable.not_not, hm.1, mi, hx3, hx5] at c_5 c_12 c_23
        have hM9 := hM
        try simp only [mi, hx3, hx5, mup_mg, mg_mg, mg_1] at hM9
        refine ⟨?_, ?_, Same.rf⟩
        · simp [sPut, mi, hm.1, hx3, hx5, cli, c_5, c_12, c_23]
        · simpa [sPut, mg_id, hm.1, hx3, hx5, cli, c_5, c_12, c_23] using hM9
    · refine aw_iconst (pc' := 16) (v := -1) eX7_put_15 rfl (by decide) ?_
      refine aw_ret (v := some (.int _)) eX7_put_16 ⟨rfl, rfl⟩ (by omega) (by omega) rfl ?_
      try simp only [zb_eq0, Bool.not_eq_false, Bool.not_eq_true, decide_eq_true_eq, decide_eq_false_iff_not, Decidable.not_not, hm.1, mi, hx3, hx5] at c_5 c_12
      have hM9 := hM
      try simp only [mi, hx3, hx5, mup_mg, mg_mg, mg_1] at hM9
      refine ⟨?_, ?_, Same.rf⟩
      · simp [sPut, mi, hm.1, hx3, hx5, cli, c_5, c_12]
      · simpa [sPut, mg_id, hm.1, hx3, hx5, cli, c_5, c_12] using hM9
def sRow (g : Nat → Int32) (m : Nat) (t p n : Int32) : Int32 × (Nat → Int32) :=
  if bIn t 0 (nI m - 1) = true ∧ bIn p 0 3 = true then if bIn n 0 9 = true then if g (10 * t.toNatClampNeg) = 6 then (g (10 * t.toNatClampNeg + 6 + p.toNatClampNeg), upd g (10 * t.toNatClampNeg + 6 + p.toNatClampNeg) n) else (-3, g) else (-2, g) else (-1, g)
abbrev mX7_row : MT := (RX7, cX7_row, 4, (some .int), false)
theorem eX7_row_0 : decode mX7_row.2.1 0 = .ok (.aload_n 0, 1) := by decide +kernel
theorem eX7_row_1 : decode mX7_row.2.1 1 = .ok (.iload_n 1, 1) := by decide +kernel
theorem eX7_row_2 : decode mX7_row.2.1 2 = .ok (.invokevirtual 88, 3) := by decide +kernel
theorem eX7_row_5 : decode mX7_row.2.1 5 = .ok (.ifCond .eq 12, 3) := by decide +kernel
theorem eX7_row_8 : decode mX7_row.2.1 8 = .ok (.iload_n 2, 1) := by decide +kernel
theorem eX7_row_9 : decode mX7_row.2.1 9 = .ok (.iconst 0, 1) := by decide +kernel
theorem eX7_row_10 : decode mX7_row.2.1 10 = .ok (.iconst 3, 1) := by decide +kernel
theorem eX7_row_11 : decode mX7_row.2.1 11 = .ok (.invokestatic 80, 3) := by decide +kernel
theorem eX7_row_14 : decode mX7_row.2.1 14 = .ok (.ifCond .ne 5, 3) := by decide +kernel
theorem eX7_row_17 : decode mX7_row.2.1 17 = .ok (.iconst (-1), 1) := by decide +kernel
theorem eX7_row_18 : decode mX7_row.2.1 18 = .ok (.ireturn, 1) := by decide +kernel
theorem eX7_row_19 : decode mX7_row.2.1 19 = .ok (.iload_n 3, 1) := by decide +kernel
theorem eX7_row_20 : decode mX7_row.2.1 20 = .ok (.iconst 0, 1) := by decide +kernel
theorem eX7_row_21 : decode mX7_row.2.1 21 = .ok (.bipush 9, 2) := by decide +kernel
theorem eX7_row_23 : decode mX7_row.2.1 23 = .ok (.invokestatic 80, 3) := by decide +kernel
theorem eX7_row_26 : decode mX7_row.2.1 26 = .ok (.ifCond .ne 6, 3) := by decide +kernel
theorem eX7_row_29 : decode mX7_row.2.1 29 = .ok (.bipush (-2), 2) := by decide +kernel
theorem eX7_row_31 : decode mX7_row.2.1 31 = .ok (.ireturn, 1) := by decide +kernel
theorem eX7_row_32 : decode mX7_row.2.1 32 = .ok (.aload_n 0, 1) := by decide +kernel
theorem eX7_row_33 : decode mX7_row.2.1 33 = .ok (.iload_n 1, 1) := by decide +kernel
theorem eX7_row_34 : decode mX7_row.2.1 34 = .ok (.iconst 0, 1) := by decide +kernel
theorem eX7_row_35 : decode mX7_row.2.1 35 = .ok (.invokevirtual 84, 3) := by decide +kernel
theorem eX7_row_38 : decode mX7_row.2.1 38 = .ok (.bipush 6, 2) := by decide +kernel
theorem eX7_row_40 : decode mX7_row.2.1 40 = .ok (.if_icmp .ne 16, 3) := by decide +kernel
theorem eX7_row_43 : decode mX7_row.2.1 43 = .ok (.aload_n 0, 1) := by decide +kernel
theorem eX7_row_44 : decode mX7_row.2.1 44 = .ok (.iload_n 1, 1) := by decide +kernel
theorem eX7_row_45 : decode mX7_row.2.1 45 = .ok (.bipush 6, 2) := by decide +kernel
theorem eX7_row_47 : decode mX7_row.2.1 47 = .ok (.iload_n 2, 1) := by decide +kernel
theorem eX7_row_48 : decode mX7_row.2.1 48 = .ok (.iadd, 1) := by decide +kernel
theorem eX7_row_49 : decode mX7_row.2.1 49 = .ok (.iload_n 3, 1) := by decide +kernel
theorem eX7_row_50 : decode mX7_row.2.1 50 = .ok (.invokevirtual 109, 3) := by decide +kernel
theorem eX7_row_53 : decode mX7_row.2.1 53 = .ok (.goto 5, 3) := by decide +kernel
theorem eX7_row_56 : decode mX7_row.2.1 56 = .ok (.bipush (-3), 2) := by decide +kernel
theorem eX7_row_58 : decode mX7_row.2.1 58 = .ok (.ireturn, 1) := by decide +kernel
theorem c_X7_row (hM : MAt h u U) {m : Nat} (hm : mOk U m) (t p n : Int32) (hd : 3 ≤ d) : Ct l G mX7_row yX7_row d 0 0 [.ref u, .int t, .int p, .int n] h (fun r h' => r = some (.int (sRow (U.1 1) m t p n).1) ∧ MAt h' u (mg U (sRow (U.1 1) m t p n).2) ∧ Same u 19 h h') := by
  refine ct_of (lv := [some (.ref u), some (.int t), some (.int p), some (.int n)]) (by decide +kernel) rfl (fun z => by cases z) (fun _ => rfl) (fun _ => Nat.le_of_ble_eq_true rfl) ?_
  refine aw_aload_n (pc' := 1) eX7_row_0 rfl rfl trivial ?_
  refine aw_iload_n (pc' := 2) eX7_row_1 rfl rfl ?_
  refine aw_callv (pc' := 5) (nn := 1) (c_X7_isOne (d := d - 1) hM _ (by omega)) eX7_row_2 rfl ⟨q897, q900, q62⟩ q899 q21 ⟨rfl, by decide +kernel, by decide +kernel, by decide +kernel⟩ rfl (by rw [hM.2.1]; exact ⟨rfl, rfl⟩) rfl ⟨by omega, by decide⟩ ⟨by omega, by omega⟩ rfl (Nat.le_of_ble_eq_true rfl) (fun v1 h2 hq3 => ?_)
  obtain ⟨rfl, rfl⟩ := hq3
  dsimp only [Option.toList, List.cons_append, List.nil_append]
  refine aw_if_eq (pc' := 8) (tgt := 17) eX7_row_5 rfl (by decide) (fun c_5 => ?_) (fun c_5 => ?_)
  · refine aw_iconst (pc' := 18) (v := -1) eX7_row_17 rfl (by decide) ?_
    refine aw_ret (v := some (.int _)) eX7_row_18 ⟨rfl, rfl⟩ (by omega) (by omega) rfl ?_
    try simp only [zb_eq0, Bool.not_eq_false, Bool.not_eq_true, decide_eq_true_eq, decide_eq_false_iff_not, Decidable.not_not, hm.1, mi] at c_5
    have hM9 := hM
    try simp only [mi, mup_mg, mg_mg, mg_1] at hM9
    refine ⟨?_, ?_, Same.rf⟩
    · simp [sRow, mi, hm.1, c_5]
    · simpa [sRow, mg_id, hm.1, c_5] using hM9
  · simp only [zb_eq0, Bool.not_eq_false, Bool.not_eq_true, decide_eq_true_eq, decide_eq_false_iff_not, Decidable.not_not] at c_5
    rw [hm.1] at c_5
    obtain ⟨i, hi, rfl⟩ := (bIn_one hm.2).mp c_5
    have hm6 := hm.2
    have cli : (nI i).toNatClampNeg = i := nI_clamp (by omega)
    have hx0 : (10 * nI i + 0).toNatClampNeg = 10 * i := ix10c (c := 0) (by omega)
    refine aw_iload_n (pc' := 9) eX7_row_8 rfl rfl ?_
    refine aw_iconst (pc' := 10) (v := 0) eX7_row_9 rfl (by decide) ?_
    refine aw_iconst (pc' := 11) (v := 3) eX7_row_10 rfl (by decide) ?_
    refine aw_calls (pc' := 14) (nn := 3) (c_X7_isIn (d := d - 1) _ _ _ (by omega)) eX7_row_11 rfl ⟨q890, q892, q62⟩ q891 ⟨by decide +kernel, by decide +kernel, by decide +kernel⟩ rfl ⟨by omega, by decide⟩ ⟨by omega, by omega⟩ rfl (Nat.le_of_ble_eq_true rfl) (fun v4 h5 hq6 => ?_)
    obtain ⟨rfl, rfl⟩ := hq6
    dsimp only [Option.toList, List.cons_append, List.nil_append]
    refine aw_if_ne (pc' := 17) (tgt := 19) eX7_row_14 rfl (by decide) (fun c_14 => ?_) (fun c_14 => ?_)
    · simp only [zb_eq0, Bool.not_eq_false, Bool.not_eq_true, decide_eq_true_eq, decide_eq_false_iff_not, Decidable.not_not] at c_14
      obtain ⟨b, hb, rfl⟩ := (bIn_lit (N := 3) (by omega)).mp c_14
      have clb : (nI b).toNatClampNeg = b := nI_clamp (by omega)
      have eb : (6 : Int32) + nI b = nI (6 + b) := nI_add 6 b
      have hx6 : (10 * nI i + (6 + nI b)).toNatClampNeg = 10 * i + 6 + b := by rw [eb]; exact (ix10c (c := 6 + b) (by omega)).trans (by omega)
      have hv6 : vp_in (10 * nI i + (6 + nI b)) 123 := by rw [eb]; exact ix10v (c := 6 + b) (by omega)
      refine aw_iload_n (pc' := 20) eX7_row_19 rfl rfl ?_
      refine aw_iconst (pc' := 21) (v := 0) eX7_row_20 rfl (by decide) ?_
      refine aw_bipush (pc' := 23) (v := 9) eX7_row_21 rfl (by decide) ?_
      refine aw_calls (pc' := 26) (nn := 3) (c_X7_isIn (d := d - 1) _ _ _ (by omega)) eX7_row_23 rfl ⟨q890, q892, q62⟩ q891 ⟨by decide +kernel, by decide +kernel, by decide +kernel⟩ rfl ⟨by omega, by decide⟩ ⟨by omega, by omega⟩ rfl (Nat.le_of_ble_eq_true rfl) (fun v7 h8 hq9 => ?_)
      obtain ⟨rfl, rfl⟩ := hq9
      dsimp only [Option.toList, List.cons_append, List.nil_append]
      refine aw_if_ne (pc' := 29) (tgt := 32) eX7_row_26 rfl (by decide) (fun c_26 => ?_) (fun c_26 => ?_)
      · refine aw_aload_n (pc' := 33) eX7_row_32 rfl rfl trivial ?_
        refine aw_iload_n (pc' := 34) eX7_row_33 rfl rfl ?_
        refine aw_iconst (pc' := 35) (v := 0) eX7_row_34 rfl (by decide) ?_
        refine aw_callv (pc' := 38) (nn := 2) (c_X7_one (d := d - 1) hM _ _ (show vp_in (10 * nI i + 0) 123 from ix10v (c := 0) (by omega)) (by omega)) eX7_row_35 rfl ⟨q901, q904, q62⟩ q903 q22 ⟨rfl, by decide +kernel, by decide +kernel, by decide +kernel⟩ rfl (by rw [hM.2.1]; exact ⟨rfl, rfl⟩) rfl ⟨by omega, by decide⟩ ⟨by omega, by omega⟩ rfl (Nat.le_of_ble_eq_true rfl) (fun v10 h11 hq12 => ?_)
        obtain ⟨rfl, rfl⟩ := hq12
        dsimp only [Option.toList, List.cons_append, List.nil_append]
        refine aw_bipush (pc' := 40) (v := 6) eX7_row_38 rfl (by decide) ?_
        refine aw_icmp_ne (pc' := 43) (tgt := 56) eX7_row_40 rfl (by decide) (fun c_40 => ?_) (fun c_40 => ?_)
        · refine aw_bipush (pc' := 58) (v := -3) eX7_row_56 rfl (by decide) ?_
          refine aw_ret (v := some (.int _)) eX7_row_58 ⟨rfl, rfl⟩ (by omega) (by omega) rfl ?_
          try simp only [zb_eq0, Bool.not_eq_false, Bool.not_eq_true, decide_eq_true_eq, decide_eq_false_iff_not, Decidable.not_not, hm.1, mi, hx0, hx6] at c_5 c_14 c_26 c_40
          have hM9 := hM
          try simp only [mi, hx0, hx6, mup_mg, mg_mg, mg_1] at hM9
          refine ⟨?_, ?_, Same.rf⟩
          · simp [sRow, mi, hm.1, hx0, hx6, cli, clb, c_5, c_14, c_26, c_40]
          · simpa [sRow, mg_id, hm.1, hx0, hx6, cli, clb, c_5, c_14, c_26, c_40] using hM9
        · refine aw_aload_n (pc' := 44) eX7_row_43 rfl rfl trivial ?_
          refine aw_iload_n (pc' := 45) eX7_row_44 rfl rfl ?_
          refine aw_bipush (pc' := 47) (v := 6) eX7_row_45 rfl (by decide) ?_
          refine aw_iload_n (pc' := 48) eX7_row_47 rfl rfl ?_
          refine aw_iadd (pc' := 49) eX7_row_48 rfl ?_
          refine aw_iload_n (pc' := 50) eX7_row_49 rfl rfl ?_
          refine aw_callv (pc' := 53) (nn := 3) (c_X7_change (d := d - 1) hM _ _ _ hv6 (by omega)) eX7_row_50 rfl ⟨q986, q989, q62⟩ q988 q43 ⟨rfl, by decide +kernel, by decide +kernel, by decide +kernel⟩ rfl (by rw [hM.2.1]; exact ⟨rfl, rfl⟩) rfl ⟨by omega, by decide⟩ ⟨by omega, by omega⟩ rfl (Nat.le_of_ble_eq_true rfl) (fun v15 h16 hq17 => ?_)
          obtain ⟨rfl, hM13, hs14⟩ := hq17
          dsimp only [Option.toList, List.cons_append, List.nil_append]
          refine aw_goto eX7_row_53 (by decide) (tgt := 58) ?_
          refine aw_ret (v := some (.int _)) eX7_row_58 ⟨rfl, rfl⟩ (by omega) (by omega) rfl ?_
          try simp only [zb_eq0, Bool.not_eq_false, Bool.not_eq_true, decide_eq_true_eq, decide_eq_false_iff_not, Decidable.not_not, hm.1, mi, hx0, hx6] at c_5 c_14 c_26 c_40
          have hM9 := hM13
          try simp only [mi, hx0, hx6, mup_mg, mg_mg, mg_1] at hM9
          refine ⟨?_, ?_, hs14⟩
          · simp [sRow, mi, hm.1, hx0, hx6, cli, clb, c_5, c_14, c_26, c_40]
          · simpa [sRow, mg_id, hm.1, hx0, hx6, cli, clb, c_5, c_14, c_26, c_40] using hM9
      · refine aw_bipush (pc' := 31) (v := -2) eX7_row_29 rfl (by decide) ?_
        refine aw_ret (v := some (.int _)) eX7_row_31 ⟨rfl, rfl⟩ (by omega) (by omega) rfl ?_
        try simp only [zb_eq0, Bool.not_eq_false, Bool.not_eq_true, decide_eq_true_eq, decide_eq_false_iff_not, Decidable.not_not, hm.1, mi, hx0, hx6] at c_5 c_14 c_26
        have hM9 := hM
        try simp only [mi, hx0, hx6, mup_mg, mg_mg, mg_1] at hM9
        refine ⟨?_, ?_, Same.rf⟩
        · simp [sRow, mi, hm.1, hx0, hx6, cli, clb, c_5, c_14, c_26]
        · simpa [sRow, mg_id, hm.1, hx0, hx6, cli, clb, c_5, c_14, c_26] using hM9
    · refine aw_iconst (pc' := 18) (v := -1) eX7_row_17 rfl (by decide) ?_
      refine aw_ret (v := some (.int _)) eX7_row_18 ⟨rfl, rfl⟩ (by omega) (by omega) rfl ?_
      try simp only [zb_eq0, Bool.not_eq_false, Bool.not_eq_true, decide_eq_true_eq, decide_eq_false_iff_not, Decidable.not_not, hm.1, mi, hx0] at c_5 c_14
      have hM9 := hM
      try simp only [mi, hx0, mup_mg, mg_mg, mg_1] at hM9
      refine ⟨?_, ?_, Same.rf⟩
      · simp [sRow, mi, hm.1, hx0, cli, c_5, c_14]
      · simpa [sRow, mg_id, hm.1, hx0, cli, c_5, c_14] using hM9
def sSea (g : Nat → Int32) (t n : Int32) : Int32 × (Nat → Int32) :=
  if bIn t 0 5 = true then if bIn n 0 (if t = 0 then 4095 else if t = 1 then 11 else 9) = true then (g (61 + t.toNatClampNeg), upd g (61 + t.toNatClampNeg) n) else (-2, g) else (-1, g)
abbrev mX7_sea : MT := (RX7, cX7_sea, 4, (some .int), false)
theorem eX7_sea_0 : decode mX7_sea.2.1 0 = .ok (.iload_n 1, 1) := by decide +kernel
theorem eX7_sea_1 : decode mX7_sea.2.1 1 = .ok (.iconst 0, 1) := by decide +kernel
theorem eX7_sea_2 : decode mX7_sea.2.1 2 = .ok (.iconst 5, 1) := by decide +kernel
theorem eX7_sea_3 : decode mX7_sea.2.1 3 = .ok (.invokestatic 80, 3) := by decide +kernel
theorem eX7_sea_6 : decode mX7_sea.2.1 6 = .ok (.ifCond .ne 5, 3) := by decide +kernel
theorem eX7_sea_9 : decode mX7_sea.2.1 9 = .ok (.iconst (-1), 1) := by decide +kernel
theorem eX7_sea_10 : decode mX7_sea.2.1 10 = .ok (.ireturn, 1) := by decide +kernel
theorem eX7_sea_11 : decode mX7_sea.2.1 11 = .ok (.iload_n 2, 1) := by decide +kernel
theorem eX7_sea_12 : decode mX7_sea.2.1 12 = .ok (.iconst 0, 1) := by decide +kernel
theorem eX7_sea_13 : decode mX7_sea.2.1 13 = .ok (.iload_n 1, 1) := by decide +kernel
theorem eX7_sea_14 : decode mX7_sea.2.1 14 = .ok (.ifCond .ne 9, 3) := by decide +kernel
theorem eX7_sea_17 : decode mX7_sea.2.1 17 = .ok (.sipush 4095, 3) := by decide +kernel
theorem eX7_sea_20 : decode mX7_sea.2.1 20 = .ok (.goto 15, 3) := by decide +kernel
theorem eX7_sea_23 : decode mX7_sea.2.1 23 = .ok (.iload_n 1, 1) := by decide +kernel
theorem eX7_sea_24 : decode mX7_sea.2.1 24 = .ok (.iconst 1, 1) := by decide +kernel
theorem eX7_sea_25 : decode mX7_sea.2.1 25 = .ok (.if_icmp .ne 8, 3) := by decide +kernel
theorem eX7_sea_28 : decode mX7_sea.2.1 28 = .ok (.bipush 11, 2) := by decide +kernel
theorem eX7_sea_30 : decode mX7_sea.2.1 30 = .ok (.goto 5, 3) := by decide +kernel
theorem eX7_sea_33 : decode mX7_sea.2.1 33 = .ok (.bipush 9, 2) := by decide +kernel
theorem eX7_sea_35 : decode mX7_sea.2.1 35 = .ok (.invokestatic 80, 3) := by decide +kernel
theorem eX7_sea_38 : decode mX7_sea.2.1 38 = .ok (.ifCond .ne 6, 3) := by decide +kernel
theorem eX7_sea_41 : decode mX7_sea.2.1 41 = .ok (.bipush (-2), 2) := by decide +kernel
theorem eX7_sea_43 : decode mX7_sea.2.1 43 = .ok (.ireturn, 1) := by decide +kernel
theorem eX7_sea_44 : decode mX7_sea.2.1 44 = .ok (.aload_n 0, 1) := by decide +kernel
theorem eX7_sea_45 : decode mX7_sea.2.1 45 = .ok (.getfield 15, 3) := by decide +kernel
theorem eX7_sea_48 : decode mX7_sea.2.1 48 = .ok (.bipush 61, 2) := by decide +kernel
theorem eX7_sea_50 : decode mX7_sea.2.1 50 = .ok (.iload_n 1, 1) := by decide +kernel
theorem eX7_sea_51 : decode mX7_sea.2.1 51 = .ok (.iadd, 1) := by decide +kernel
theorem eX7_sea_52 : decode mX7_sea.2.1 52 = .ok (.iaload, 1) := by decide +kernel
theorem eX7_sea_53 : decode mX7_sea.2.1 53 = .ok (.istore_n 3, 1) := by decide +kernel
theorem eX7_sea_54 : decode mX7_sea.2.1 54 = .ok (.aload_n 0, 1) := by decide +kernel
theorem eX7_sea_55 : decode mX7_sea.2.1 55 = .ok (.getfield 15, 3) := by decide +kernel
theorem eX7_sea_58 : decode mX7_sea.2.1 58 = .ok (.bipush 61, 2) := by decide +kernel
theorem eX7_sea_60 : decode mX7_sea.2.1 60 = .ok (.iload_n 1, 1) := by decide +kernel
theorem eX7_sea_61 : decode mX7_sea.2.1 61 = .ok (.iadd, 1) := by decide +kernel
theorem eX7_sea_62 : decode mX7_sea.2.1 62 = .ok (.iload_n 2, 1) := by decide +kernel
theorem eX7_sea_63 : decode mX7_sea.2.1 63 = .ok (.iastore, 1) := by decide +kernel
theorem eX7_sea_64 : decode mX7_sea.2.1 64 = .ok (.iload_n 3, 1) := by decide +kernel
theorem eX7_sea_65 : decode mX7_sea.2.1 65 = .ok (.ireturn, 1) := by decide +kernel
theorem c_X7_sea (hM : MAt h u U) {m : Nat} (hm : mOk U m) (t n : Int32) (hd : 2 ≤ d) : Ct l G mX7_sea yX7_sea d 0 0 [.ref u, .int t, .int n] h (fun r h' => r = some (.int (sSea (U.1 1) t n).1) ∧ MAt h' u (mg U (sSea (U.1 1) t n).2) ∧ Same u 19 h h') := by
  refine ct_of (lv := [some (.ref u), some (.int t), some (.int n), none]) (by decide +kernel) rfl (fun z => by cases z) (fun _ => rfl) (fun _ => Nat.le_of_ble_eq_true rfl) ?_
  refine aw_iload_n (pc' := 1) eX7_sea_0 rfl rfl ?_
  refine aw_iconst (pc' := 2) (v := 0) eX7_sea_1 rfl (by decide) ?_
  refine aw_iconst (pc' := 3) (v := 5) eX7_sea_2 rfl (by decide) ?_
  refine aw_calls (pc' := 6) (nn := 3) (c_X7_isIn (d := d - 1) _ _ _ (by omega)) eX7_sea_3 rfl ⟨q890, q892, q62⟩ q891 ⟨by decide +kernel, by decide +kernel, by decide +kernel⟩ rfl ⟨by omega, by decide⟩ ⟨by omega, by omega⟩ rfl (Nat.le_of_ble_eq_true rfl) (fun v1 h2 hq3 => ?_)
  obtain ⟨rfl, rfl⟩ := hq3
  dsimp only [Option.toList, List.cons_append, List.nil_append]
  refine aw_if_ne (pc' := 9) (tgt := 11) eX7_sea_6 rfl (by decide) (fun c_6 => ?_) (fun c_6 => ?_)
  · refine aw_iload_n (pc' := 12) eX7_sea_11 rfl rfl ?_
    refine aw_iconst (pc' := 13) (v := 0) eX7_sea_12 rfl (by decide) ?_
    refine aw_iload_n (pc' := 14) eX7_sea_13 rfl rfl ?_
    refine aw_if_ne (pc' := 17) (tgt := 23) eX7_sea_14 rfl (by decide) (fun c_14 => ?_) (fun c_14 => ?_)
    · refine aw_iload_n (pc' := 24) eX7_sea_23 rfl rfl ?_
      refine aw_iconst (pc' := 25) (v := 1) eX7_sea_24 rfl (by decide) ?_
      refine aw_icmp_ne (pc' := 28) (tgt := 33) eX7_sea_25 rfl (by decide) (fun c_25 => ?_) (fun c_25 => ?_)
      · refine aw_bipush (pc' := 35) (v := 9) eX7_sea_33 rfl (by decide) ?_
        refine aw_calls (pc' := 38) (nn := 3) (c_X7_isIn (d := d - 1) _ _ _ (by omega)) eX7_sea_35 rfl ⟨q890, q892, q62⟩ q891 ⟨by decide +kernel, by decide +kernel, by decide +kernel⟩ rfl ⟨by omega, by decide⟩ ⟨by omega, by omega⟩ rfl (Nat.le_of_ble_eq_true rfl) (fun v4 h5 hq6 => ?_)
        obtain ⟨rfl, rfl⟩ := hq6
        dsimp only [Option.toList, List.cons_append, List.nil_append]
        refine aw_if_ne (pc' := 41) (tgt := 44) eX7_sea_38 rfl (by decide) (fun c_38 => ?_) (fun c_38 => ?_)
        · simp only [zb_eq0, Bool.not_eq_false, Bool.not_eq_true, decide_eq_true_eq, decide_eq_false_iff_not, Decidable.not_not] at c_6
          obtain ⟨b, hb, hb2⟩ := (bIn_lit (N := 5) (by omega)).mp c_6
          have clb : t.toNatClampNeg = b := by rw [hb2]; exact nI_clamp (by omega)
          have hx6 : (61 + t).toNatClampNeg = 61 + b := by rw [hb2]; exact (ixa (c := 61) (by omega)).1
          have hv6 : vp_in (61 + t) 123 := by rw [hb2]; exact (ixa (c := 61) (by omega)).2
          refine aw_aload_n (pc' := 45) eX7_sea_44 rfl rfl trivial ?_
          refine aw_Mref (pc' := 48) (kf := 0) 1 hM eX7_sea_45 rfl (by decide) rfl q789 ?_
          refine aw_bipush (pc' := 50) (v := 61) eX7_sea_48 rfl (by decide) ?_
          refine aw_iload_n (pc' := 51) eX7_sea_50 rfl rfl ?_
          refine aw_iadd (pc' := 52) eX7_sea_51 rfl ?_
          refine aw_MaldC (pc' := 53) 1 (61 + b) hM eX7_sea_52 rfl (by decide) hv6 hx6 ?_
          refine aw_istore_n (pc' := 54) eX7_sea_53 rfl (by decide) ?_
          dsimp only [zst, zst2, zcut]
          refine aw_aload_n (pc' := 55) eX7_sea_54 rfl rfl trivial ?_
          refine aw_Mref (pc' := 58) (kf := 0) 1 hM eX7_sea_55 rfl (by decide) rfl q789 ?_
          refine aw_bipush (pc' := 60) (v := 61) eX7_sea_58 rfl (by decide) ?_
          refine aw_iload_n (pc' := 61) eX7_sea_60 rfl rfl ?_
          refine aw_iadd (pc' := 62) eX7_sea_61 rfl ?_
          refine aw_iload_n (pc' := 63) eX7_sea_62 rfl rfl ?_
          refine aw_MastC (pc' := 64) 1 (61 + b) hM eX7_sea_63 rfl (by decide) hv6 hx6 (fun h9 hM7 hs8 => ?_)
          refine aw_iload_n (pc' := 65) eX7_sea_64 rfl rfl ?_
          refine aw_ret (v := some (.int _)) eX7_sea_65 ⟨rfl, rfl⟩ (by omega) (by omega) rfl ?_
          try simp only [zb_eq0, Bool.not_eq_false, Bool.not_eq_true, decide_eq_true_eq, decide_eq_false_iff_not, Decidable.not_not] at c_6 c_14 c_25 c_38
          have e38 : bIn n 0 (if t = 0 then 4095 else if t = 1 then 11 else 9) = true := by first | (rw [if_pos c_14]; exact c_38) | (rw [if_neg c_14, if_pos c_25]; exact c_38) | (rw [if_neg c_14, if_neg c_25]; exact c_38)
          rw [sSea, if_pos c_6, if_pos e38, clb]
          exact ⟨rfl, hM7, hs8⟩
        · refine aw_bipush (pc' := 43) (v := -2) eX7_sea_41 rfl (by decide) ?_
          refine aw_ret (v := some (.int _)) eX7_sea_43 ⟨rfl, rfl⟩ (by omega) (by omega) rfl ?_
          try simp only [zb_eq0, Bool.not_eq_false, Bool.not_eq_true, decide_eq_true_eq, decide_eq_false_iff_not, Decidable.not_not] at c_6 c_14 c_25 c_38
          have e38 : bIn n 0 (if t = 0 then 4095 else if t = 1 then 11 else 9) = false := by first | (rw [if_pos c_14]; exact c_38) | (rw [if_neg c_14, if_pos c_25]; exact c_38) | (rw [if_neg c_14, if_neg c_25]; exact c_38)
          rw [sSea, if_pos c_6, if_neg (by rw [e38]; decide)]
          exact ⟨rfl, by rw [mg_id]; exact hM, Same.rf⟩
      · refine aw_bipush (pc' := 30) (v := 11) eX7_sea_28 rfl (by decide) ?_
        refine aw_goto eX7_sea_30 (by decide) (tgt := 35) ?_
        refine aw_calls (pc' := 38) (nn := 3) (c_X7_isIn (d := d - 1) _ _ _ (by omega)) eX7_sea_35 rfl ⟨q890, q892, q62⟩ q891 ⟨by decide +kernel, by decide +kernel, by decide +kernel⟩ rfl ⟨by omega, by decide⟩ ⟨by omega, by omega⟩ rfl (Nat.le_of_ble_eq_true rfl) (fun v10 h11 hq12 => ?_)
        obtain ⟨rfl, rfl⟩ := hq12
        dsimp only [Option.toList, List.cons_append, List.nil_append]
        refine aw_if_ne (pc' := 41) (tgt := 44) eX7_sea_38 rfl (by decide) (fun c_38 => ?_) (fun c_38 => ?_)
        · simp only [zb_eq0, Bool.not_eq_false, Bool.not_eq_true, decide_eq_true_eq, decide_eq_false_iff_not, Decidable.not_not] at c_6
          obtain ⟨b, hb, hb2⟩ := (bIn_lit (N := 5) (by omega)).mp c_6
          have clb : t.toNatClampNeg = b := by rw [hb2]; exact nI_clamp (by omega)
          have hx6 : (61 + t).toNatClampNeg = 61 + b := by rw [hb2]; exact (ixa (c := 61) (by omega)).1
          have hv6 : vp_in (61 + t) 123 := by rw [hb2]; exact (ixa (c := 61) (by omega)).2
          refine aw_aload_n (pc' := 45) eX7_sea_44 rfl rfl trivial ?_
          refine aw_Mref (pc' := 48) (kf := 0) 1 hM eX7_sea_45 rfl (by decide) rfl q789 ?_
          refine aw_bipush (pc' := 50) (v := 61) eX7_sea_48 rfl (by decide) ?_
          refine aw_iload_n (pc' := 51) eX7_sea_50 rfl rfl ?_
          refine aw_iadd (pc' := 52) eX7_sea_51 rfl ?_
          refine aw_MaldC (pc' := 53) 1 (61 + b) hM eX7_sea_52 rfl (by decide) hv6 hx6 ?_
          refine aw_istore_n (pc' := 54) eX7_sea_53 rfl (by decide) ?_
          dsimp only [zst, zst2, zcut]
          refine aw_aload_n (pc' := 55) eX7_sea_54 rfl rfl trivial ?_
          refine aw_Mref (pc' := 58) (kf := 0) 1 hM eX7_sea_55 rfl (by decide) rfl q789 ?_
          refine aw_bipush (pc' := 60) (v := 61) eX7_sea_58 rfl (by decide) ?_
          refine aw_iload_n (pc' := 61) eX7_sea_60 rfl rfl ?_
          refine aw_iadd (pc' := 62) eX7_sea_61 rfl ?_
          refine aw_iload_n (pc' := 63) eX7_sea_62 rfl rfl ?_
          refine aw_MastC (pc' := 64) 1 (61 + b) hM eX7_sea_63 rfl (by decide) hv6 hx6 (fun h15 hM13 hs14 => ?_)
          refine aw_iload_n (pc' := 65) eX7_sea_64 rfl rfl ?_
          refine aw_ret (v := some (.int _)) eX7_sea_65 ⟨rfl, rfl⟩ (by omega) (by omega) rfl ?_
          try simp only [zb_eq0, Bool.not_eq_false, Bool.not_eq_true, decide_eq_true_eq, decide_eq_false_iff_not, Decidable.not_not] at c_6 c_14 c_25 c_38
          have e38 : bIn n 0 (if t = 0 then 4095 else if t = 1 then 11 else 9) = true := by first | (rw [if_pos c_14]; exact c_38) | (rw [if_neg c_14, if_pos c_25]; exact c_38) | (rw [if_neg c_14, if_neg c_25]; exact c_38)
          rw [sSea, if_pos c_6, if_pos e38, clb]
          exact ⟨rfl, hM13, hs14⟩
        · refine aw_bipush (pc' := 43) (v := -2) eX7_sea_41 rfl (by decide) ?_
          refine aw_ret (v := some (.int _)) eX7_sea_43 ⟨rfl, rfl⟩ (by omega) (by omega) rfl ?_
          try simp only [zb_eq0, Bool.not_eq_false, Bool.not_eq_true, decide_eq_true_eq, decide_eq_false_iff_not, Decidable.not_not] at c_6 c_14 c_25 c_38
          have e38 : bIn n 0 (if t = 0 then 4095 else if t = 1 then 11 else 9) = false := by first | (rw [if_pos c_14]; exact c_38) | (rw [if_neg c_14, if_pos c_25]; exact c_38) | (rw [if_neg c_14, if_neg c_25]; exact c_38)
          rw [sSea, if_pos c_6, if_neg (by rw [e38]; decide)]
          exact ⟨rfl, by rw [mg_id]; exact hM, Same.rf⟩
    · refine aw_sipush (pc' := 20) (v := 4095) eX7_sea_17 rfl (by decide) ?_
      refine aw_goto eX7_sea_20 (by decide) (tgt := 35) ?_
      refine aw_calls (pc' := 38) (nn := 3) (c_X7_isIn (d := d - 1) _ _ _ (by omega)) eX7_sea_35 rfl ⟨q890, q892, q62⟩ q891 ⟨by decide +kernel, by decide +kernel, by decide +kernel⟩ rfl ⟨by omega, by decide⟩ ⟨by omega, by omega⟩ rfl (Nat.le_of_ble_eq_true rfl) (fun v16 h17 hq18 => ?_)
      obtain ⟨rfl, rfl⟩ := hq18
      dsimp only [Option.toList, List.cons_append, List.nil_append]
      refine aw_if_ne (pc' := 41) (tgt := 44) eX7_sea_38 rfl (by decide) (fun c_38 => ?_) (fun c_38 => ?_)
      · simp only [zb_eq0, Bool.not_eq_false, Bool.not_eq_true, decide_eq_true_eq, decide_eq_false_iff_not, Decidable.not_not] at c_6
        obtain ⟨b, hb, hb2⟩ := (bIn_lit (N := 5) (by omega)).mp c_6
        have clb : t.toNatClampNeg = b := by rw [hb2]; exact nI_clamp (by omega)
        have hx6 : (61 + t).toNatClampNeg = 61 + b := by rw [hb2]; exact (ixa (c := 61) (by omega)).1
        have hv6 : vp_in (61 + t) 123 := by rw [hb2]; exact (ixa (c := 61) (by omega)).2
        refine aw_aload_n (pc' := 45) eX7_sea_44 rfl rfl trivial ?_
        refine aw_Mref (pc' := 48) (kf := 0) 1 hM eX7_sea_45 rfl (by decide) rfl q789 ?_
        refine aw_bipush (pc' := 50) (v := 61) eX7_sea_48 rfl (by decide) ?_
        refine aw_iload_n (pc' := 51) eX7_sea_50 rfl rfl ?_
        refine aw_iadd (pc' := 52) eX7_sea_51 rfl ?_
        refine aw_MaldC (pc' := 53) 1 (61 + b) hM eX7_sea_52 rfl (by decide) hv6 hx6 ?_
        refine aw_istore_n (pc' := 54) eX7_sea_53 rfl (by decide) ?_
        dsimp only [zst, zst2, zcut]
        refine aw_aload_n (pc' := 55) eX7_sea_54 rfl rfl trivial ?_
        refine aw_Mref (pc' := 58) (kf := 0) 1 hM eX7_sea_55 rfl (by decide) rfl q789 ?_
        refine aw_bipush (pc' := 60) (v := 61) eX7_sea_58 rfl (by decide) ?_
        refine aw_iload_n (pc' := 61) eX7_sea_60 rfl rfl ?_
        refine aw_iadd (pc' := 62) eX7_sea_61 rfl ?_
        refine aw_iload_n (pc' := 63) eX7_sea_62 rfl rfl ?_
        refine aw_MastC (pc' := 64) 1 (61 + b) hM eX7_sea_63 rfl (by decide) hv6 hx6 (fun h21 hM19 hs20 => ?_)
        refine aw_iload_n (pc' := 65) eX7_sea_64 rfl rfl ?_
        refine aw_ret (v := some (.int _)) eX7_sea_65 ⟨rfl, rfl⟩ (by omega) (by omega) rfl ?_
        try simp only [zb_eq0, Bool.not_eq_false, Bool.not_eq_true, decide_eq_true_eq, decide_eq_false_iff_not, Decidable.not_not] at c_6 c_14 c_38
        have e38 : bIn n 0 (if t = 0 then 4095 else if t = 1 then 11 else 9) = true := by first | (rw [if_pos c_14]; exact c_38) | (rw [if_neg c_14, if_pos c_25]; exact c_38) | (rw [if_neg c_14, if_neg c_25]; exact c_38)
        rw [sSea, if_pos c_6, if_pos e38, clb]
        exact ⟨rfl, hM19, hs20⟩
      · refine aw_bipush (pc' := 43) (v := -2) eX7_sea_41 rfl (by decide) ?_
        refine aw_ret (v := some (.int _)) eX7_sea_43 ⟨rfl, rfl⟩ (by omega) (by omega) rfl ?_
        try simp only [zb_eq0, Bool.not_eq_false, Bool.not_eq_true, decide_eq_true_eq, decide_eq_false_iff_not, Decidable.not_not] at c_6 c_14 c_38
        have e38 : bIn n 0 (if t = 0 then 4095 else if t = 1 then 11 else 9) = false := by first | (rw [if_pos c_14]; exact c_38) | (rw [if_neg c_14, if_pos c_25]; exact c_38) | (rw [if_neg c_14, if_neg c_25]; exact c_38)
        rw [sSea, if_pos c_6, if_neg (by rw [e38]; decide)]
        exact ⟨rfl, by rw [mg_id]; exact hM, Same.rf⟩
  · refine aw_iconst (pc' := 10) (v := -1) eX7_sea_9 rfl (by decide) ?_
    refine aw_ret (v := some (.int _)) eX7_sea_10 ⟨rfl, rfl⟩ (by omega) (by omega) rfl ?_
    try simp only [zb_eq0, Bool.not_eq_false, Bool.not_eq_true, decide_eq_true_eq, decide_eq_false_iff_not, Decidable.not_not, hm.1, mi] at c_6
    have hM9 := hM
    try simp only [mi, mup_mg, mg_mg, mg_1] at hM9
    refine ⟨?_, ?_, Same.rf⟩
    · simp [sSea, mi, hm.1, c_6]
    · simpa [sSea, mg_id, hm.1, c_6] using hM9
def sSee (g : Nat → Int32) (m a : Nat) (t n s : Int32) : Int32 × (Nat → Int32) :=
  if t = -1 then (0, upd g 69 0) else if bIn t 0 (nI m - 1) = true then if bIn n 0 12 = true ∧ bIn s 0 4 = true then if nI a = 5 then (-4, g) else
    (upd (upd (upd (upd g (70 + 3 * a) t) (71 + 3 * a) n) (72 + 3 * a) s) 69 (upd (upd (upd g (70 + 3 * a) t) (71 + 3 * a) n) (72 + 3 * a) s 69 + 1) 69, upd (upd (upd (upd g (70 + 3 * a) t) (71 + 3 * a) n) (72 + 3 * a) s) 69 (upd (upd (upd g (70 + 3 * a) t) (71 + 3 * a) n) (72 + 3 * a) s 69 + 1)) else (-2, g) else (-1, g)
abbrev mX7_see : MT := (RX7, cX7_see, 5, (some .int), false)
theorem eX7_see_0 : decode mX7_see.2.1 0 = .ok (.iload_n 1, 1) := by decide +kernel
theorem eX7_see_1 : decode mX7_see.2.1 1 = .ok (.iconst (-1), 1) := by decide +kernel
theorem eX7_see_2 : decode mX7_see.2.1 2 = .ok (.if_icmp .ne 13, 3) := by decide +kernel
theorem eX7_see_5 : decode mX7_see.2.1 5 = .ok (.aload_n 0, 1) := by decide +kernel
theorem eX7_see_6 : decode mX7_see.2.1 6 = .ok (.getfield 15, 3) := by decide +kernel
theorem eX7_see_9 : decode mX7_see.2.1 9 = .ok (.bipush 69, 2) := by decide +kernel
theorem eX7_see_11 : decode mX7_see.2.1 11 = .ok (.iconst 0, 1) := by decide +kernel
theorem eX7_see_12 : decode mX7_see.2.1 12 = .ok (.iastore, 1) := by decide +kernel
theorem eX7_see_13 : decode mX7_see.2.1 13 = .ok (.iconst 0, 1) := by decide +kernel
theorem eX7_see_14 : decode mX7_see.2.1 14 = .ok (.ireturn, 1) := by decide +kernel
theorem eX7_see_15 : decode mX7_see.2.1 15 = .ok (.aload_n 0, 1) := by decide +kernel
theorem eX7_see_16 : decode mX7_see.2.1 16 = .ok (.iload_n 1, 1) := by decide +kernel
theorem eX7_see_17 : decode mX7_see.2.1 17 = .ok (.invokevirtual 88, 3) := by decide +kernel
theorem eX7_see_20 : decode mX7_see.2.1 20 = .ok (.ifCond .ne 5, 3) := by decide +kernel
theorem eX7_see_23 : decode mX7_see.2.1 23 = .ok (.iconst (-1), 1) := by decide +kernel
theorem eX7_see_24 : decode mX7_see.2.1 24 = .ok (.ireturn, 1) := by decide +kernel
theorem eX7_see_25 : decode mX7_see.2.1 25 = .ok (.iload_n 2, 1) := by decide +kernel
theorem eX7_see_26 : decode mX7_see.2.1 26 = .ok (.iconst 0, 1) := by decide +kernel
theorem eX7_see_27 : decode mX7_see.2.1 27 = .ok (.bipush 12, 2) := by decide +kernel
theorem eX7_see_29 : decode mX7_see.2.1 29 = .ok (.invokestatic 80, 3) := by decide +kernel
theorem eX7_see_32 : decode mX7_see.2.1 32 = .ok (.ifCond .eq 12, 3) := by decide +kernel
theorem eX7_see_35 : decode mX7_see.2.1 35 = .ok (.iload_n 3, 1) := by decide +kernel
theorem eX7_see_36 : decode mX7_see.2.1 36 = .ok (.iconst 0, 1) := by decide +kernel
theorem eX7_see_37 : decode mX7_see.2.1 37 = .ok (.iconst 4, 1) := by decide +kernel
theorem eX7_see_38 : decode mX7_see.2.1 38 = .ok (.invokestatic 80, 3) := by decide +kernel
theorem eX7_see_41 : decode mX7_see.2.1 41 = .ok (.ifCond .ne 6, 3) := by decide +kernel
theorem eX7_see_44 : decode mX7_see.2.1 44 = .ok (.bipush (-2), 2) := by decide +kernel
theorem eX7_see_46 : decode mX7_see.2.1 46 = .ok (.ireturn, 1) := by decide +kernel
theorem eX7_see_47 : decode mX7_see.2.1 47 = .ok (.aload_n 0, 1) := by decide +kernel
theorem eX7_see_48 : decode mX7_see.2.1 48 = .ok (.getfield 15, 3) := by decide +kernel
theorem eX7_see_51 : decode mX7_see.2.1 51 = .ok (.bipush 69, 2) := by decide +kernel
theorem eX7_see_53 : decode mX7_see.2.1 53 = .ok (.iaload, 1) := by decide +kernel
theorem eX7_see_54 : decode mX7_see.2.1 54 = .ok (.iconst 5, 1) := by decide +kernel
theorem eX7_see_55 : decode mX7_see.2.1 55 = .ok (.if_icmp .ne 6, 3) := by decide +kernel
theorem eX7_see_58 : decode mX7_see.2.1 58 = .ok (.bipush (-4), 2) := by decide +kernel
theorem eX7_see_60 : decode mX7_see.2.1 60 = .ok (.ireturn, 1) := by decide +kernel
theorem eX7_see_61 : decode mX7_see.2.1 61 = .ok (.bipush 70, 2) := by decide +kernel
theorem eX7_see_63 : decode mX7_see.2.1 63 = .ok (.iconst 3, 1) := by decide +kernel
theorem eX7_see_64 : decode mX7_see.2.1 64 = .ok (.aload_n 0, 1) := by decide +kernel
theorem eX7_see_65 : decode mX7_see.2.1 65 = .ok (.getfield 15, 3) := by decide +kernel
theorem eX7_see_68 : decode mX7_see.2.1 68 = .ok (.bipush 69, 2) := by decide +kernel
theorem eX7_see_70 : decode mX7_see.2.1 70 = .ok (.iaload, 1) := by decide +kernel
theorem eX7_see_71 : decode mX7_see.2.1 71 = .ok (.imul, 1) := by decide +kernel
theorem eX7_see_72 : decode mX7_see.2.1 72 = .ok (.iadd, 1) := by decide +kernel
theorem eX7_see_73 : decode mX7_see.2.1 73 = .ok (.istore 4, 2) := by decide +kernel
theorem eX7_see_75 : decode mX7_see.2.1 75 = .ok (.aload_n 0, 1) := by decide +kernel
theorem eX7_see_76 : decode mX7_see.2.1 76 = .ok (.getfield 15, 3) := by decide +kernel
theorem eX7_see_79 : decode mX7_see.2.1 79 = .ok (.iload 4, 2) := by decide +kernel
theorem eX7_see_81 : decode mX7_see.2.1 81 = .ok (.iload_n 1, 1) := by decide +kernel
theorem eX7_see_82 : decode mX7_see.2.1 82 = .ok (.iastore, 1) := by decide +kernel
theorem eX7_see_83 : decode mX7_see.2.1 83 = .ok (.aload_n 0, 1) := by decide +kernel
theorem eX7_see_84 : decode mX7_see.2.1 84 = .ok (.getfield 15, 3) := by decide +kernel
theorem eX7_see_87 : decode mX7_see.2.1 87 = .ok (.iload 4, 2) := by decide +kernel
theorem eX7_see_89 : decode mX7_see.2.1 89 = .ok (.iconst 1, 1) := by decide +kernel
theorem eX7_see_90 : decode mX7_see.2.1 90 = .ok (.iadd, 1) := by decide +kernel
theorem eX7_see_91 : decode mX7_see.2.1 91 = .ok (.iload_n 2, 1) := by decide +kernel
theorem eX7_see_92 : decode mX7_see.2.1 92 = .ok (.iastore, 1) := by decide +kernel
theorem eX7_see_93 : decode mX7_see.2.1 93 = .ok (.aload_n 0, 1) := by decide +kernel
theorem eX7_see_94 : decode mX7_see.2.1 94 = .ok (.getfield 15, 3) := by decide +kernel
theorem eX7_see_97 : decode mX7_see.2.1 97 = .ok (.iload 4, 2) := by decide +kernel
theorem eX7_see_99 : decode mX7_see.2.1 99 = .ok (.iconst 2, 1) := by decide +kernel
theorem eX7_see_100 : decode mX7_see.2.1 100 = .ok (.iadd, 1) := by decide +kernel
theorem eX7_see_101 : decode mX7_see.2.1 101 = .ok (.iload_n 3, 1) := by decide +kernel
theorem eX7_see_102 : decode mX7_see.2.1 102 = .ok (.iastore, 1) := by decide +kernel
theorem eX7_see_103 : decode mX7_see.2.1 103 = .ok (.aload_n 0, 1) := by decide +kernel
theorem eX7_see_104 : decode mX7_see.2.1 104 = .ok (.getfield 15, 3) := by decide +kernel
theorem eX7_see_107 : decode mX7_see.2.1 107 = .ok (.bipush 69, 2) := by decide +kernel
theorem eX7_see_109 : decode mX7_see.2.1 109 = .ok (.dup2, 1) := by decide +kernel
theorem eX7_see_110 : decode mX7_see.2.1 110 = .ok (.iaload, 1) := by decide +kernel
theorem eX7_see_111 : decode mX7_see.2.1 111 = .ok (.iconst 1, 1) := by decide +kernel
theorem eX7_see_112 : decode mX7_see.2.1 112 = .ok (.iadd, 1) := by decide +kernel
theorem eX7_see_113 : decode mX7_see.2.1 113 = .ok (.iastore, 1) := by decide +kernel
theorem eX7_see_114 : decode mX7_see.2.1 114 = .ok (.aload_n 0, 1) := by decide +kernel
theorem eX7_see_115 : decode mX7_see.2.1 115 = .ok (.getfield 15, 3) := by decide +kernel
theorem eX7_see_118 : decode mX7_see.2.1 118 = .ok (.bipush 69, 2) := by decide +kernel
theorem eX7_see_120 : decode mX7_see.2.1 120 = .ok (.iaload, 1) := by decide +kernel
theorem eX7_see_121 : decode mX7_see.2.1 121 = .ok (.ireturn, 1) := by decide +kernel
theorem c_X7_see (hM : MAt h u U) {m : Nat} (hm : mOk U m) {a : Nat} (ha : a ≤ 5) (hs : U.1 1 69 = nI a) (t n s : Int32) (hd : 2 ≤ d) : Ct l G mX7_see yX7_see d 0 0 [.ref u, .int t, .int n, .int s] h (fun r h' => r = some (.int (sSee (U.1 1) m a t n s).1) ∧ MAt h' u (mg U (sSee (U.1 1) m a t n s).2) ∧ Same u 19 h h') := by
  refine ct_of (lv := [some (.ref u), some (.int t), some (.int n), some (.int s), none]) (by decide +kernel) rfl (fun z => by cases z) (fun _ => rfl) (fun _ => Nat.le_of_ble_eq_true rfl) ?_
  refine aw_iload_n (pc' := 1) eX7_see_0 rfl rfl ?_
  refine aw_iconst (pc' := 2) (v := -1) eX7_see_1 rfl (by decide) ?_
  refine aw_icmp_ne (pc' := 5) (tgt := 15) eX7_see_2 rfl (by decide) (fun c_2 => ?_) (fun c_2 => ?_)
  · refine aw_aload_n (pc' := 16) eX7_see_15 rfl rfl trivial ?_
    refine aw_iload_n (pc' := 17) eX7_see_16 rfl rfl ?_
    refine aw_callv (pc' := 20) (nn := 1) (c_X7_isOne (d := d - 1) hM _ (by omega)) eX7_see_17 rfl ⟨q897, q900, q62⟩ q899 q21 ⟨rfl, by decide +kernel, by decide +kernel, by decide +kernel⟩ rfl (by rw [hM.2.1]; exact ⟨rfl, rfl⟩) rfl ⟨by omega, by decide⟩ ⟨by omega, by omega⟩ rfl (Nat.le_of_ble_eq_true rfl) (fun v1 h2 hq3 => ?_)
    obtain ⟨rfl, rfl⟩ := hq3
    dsimp only [Option.toList, List.cons_append, List.nil_append]
    refine aw_if_ne (pc' := 23) (tgt := 25) eX7_see_20 rfl (by decide) (fun c_20 => ?_) (fun c_20 => ?_)
    · refine aw_iload_n (pc' := 26) eX7_see_25 rfl rfl ?_
      refine aw_iconst (pc' := 27) (v := 0) eX7_see_26 rfl (by decide) ?_
      refine aw_bipush (pc' := 29) (v := 12) eX7_see_27 rfl (by decide) ?_
      refine aw_calls (pc' := 32) (nn := 3) (c_X7_isIn (d := d - 1) _ _ _ (by omega)) eX7_see_29 rfl ⟨q890, q892, q62⟩ q891 ⟨by decide +kernel, by decide +kernel, by decide +kernel⟩ rfl ⟨by omega, by decide⟩ ⟨by omega, by omega⟩ rfl (Nat.le_of_ble_eq_true rfl) (fun v4 h5 hq6 => ?_)
      obtain ⟨rfl, rfl⟩ := hq6
      dsimp only [Option.toList, List.cons_append, List.nil_append]
      refine aw_if_eq (pc' := 35) (tgt := 44) eX7_see_32 rfl (by decide) (fun c_32 => ?_) (fun c_32 => ?_)
      · refine aw_bipush (pc' := 46) (v := -2) eX7_see_44 rfl (by decide) ?_
        refine aw_ret (v := some (.int _)) eX7_see_46 ⟨rfl, rfl⟩ (by omega) (by omega) rfl ?_
        try simp only [zb_eq0, Bool.not_eq_false, Bool.not_eq_true, decide_eq_true_eq, decide_eq_false_iff_not, Decidable.not_not, hm.1, mi] at c_2 c_20 c_32
        have hM9 := hM
        try simp only [mi, mup_mg, mg_mg, mg_1] at hM9
        refine ⟨?_, ?_, Same.rf⟩
        · simp [sSee, mi, hm.1, c_2, c_20, c_32]
        · simpa [sSee, mg_id, hm.1, c_2, c_20, c_32] using hM9
      · refine aw_iload_n (pc' := 36) eX7_see_35 rfl rfl ?_
        refine aw_iconst (pc' := 37) (v := 0) eX7_see_36 rfl (by decide) ?_
        refine aw_iconst (pc' := 38) (v := 4) eX7_see_37 rfl (by decide) ?_
        refine aw_calls (pc' := 41) (nn := 3) (c_X7_isIn (d := d - 1) _ _ _ (by omega)) eX7_see_38 rfl ⟨q890, q892, q62⟩ q891 ⟨by decide +kernel, by decide +kernel, by decide +kernel⟩ rfl ⟨by omega, by decide⟩ ⟨by omega, by omega⟩ rfl (Nat.le_of_ble_eq_true rfl) (fun v7 h8 hq9 => ?_)
        obtain ⟨rfl, rfl⟩ := hq9
        dsimp only [Option.toList, List.cons_append, List.nil_append]
        refine aw_if_ne (pc' := 44) (tgt := 47) eX7_see_41 rfl (by decide) (fun c_41 => ?_) (fun c_41 => ?_)
        · refine aw_aload_n (pc' := 48) eX7_see_47 rfl rfl trivial ?_
          refine aw_Mref (pc' := 51) (kf := 0) 1 hM eX7_see_48 rfl (by decide) rfl q789 ?_
          refine aw_bipush (pc' := 53) (v := 69) eX7_see_51 rfl (by decide) ?_
          refine aw_MaldC (pc' := 54) 1 69 hM eX7_see_53 rfl (by decide) (by unfold vp_in; decide) (by decide) ?_
          refine aw_iconst (pc' := 55) (v := 5) eX7_see_54 rfl (by decide) ?_
          refine aw_icmp_ne (pc' := 58) (tgt := 61) eX7_see_55 rfl (by decide) (fun c_55 => ?_) (fun c_55 => ?_)
          · rw [hs] at c_55
            have ha5 : a < 5 := by
              rcases Nat.lt_or_ge a 5 with z | z
              · exact z
              · exact absurd (by rw [show a = 5 by omega]; rfl) c_55
            have hx6 : (70 + 3 * U.1 1 69).toNatClampNeg = 70 + 3 * a := by rw [hs]; exact (ix3 (c := 70) (b := 3) (by omega)).1
            have hv6 : vp_in (70 + 3 * U.1 1 69) 123 := by rw [hs]; exact (ix3 (c := 70) (b := 3) (by omega)).2
            have e7 : (70 + 3 * U.1 1 69) + 1 = nI (71 + 3 * a) := by rw [hs]; show nI 70 + nI 3 * nI a + nI 1 = _; rw [pk_mul, nI_add, nI_add]; congr 1; omega
            have e8 : (70 + 3 * U.1 1 69) + 2 = nI (72 + 3 * a) := by rw [hs]; show nI 70 + nI 3 * nI a + nI 2 = _; rw [pk_mul, nI_add, nI_add]; congr 1; omega
            refine aw_bipush (pc' := 63) (v := 70) eX7_see_61 rfl (by decide) ?_
            refine aw_iconst (pc' := 64) (v := 3) eX7_see_63 rfl (by decide) ?_
            refine aw_aload_n (pc' := 65) eX7_see_64 rfl rfl trivial ?_
            refine aw_Mref (pc' := 68) (kf := 0) 1 hM eX7_see_65 rfl (by decide) rfl q789 ?_
            refine aw_bipush (pc' := 70) (v := 69) eX7_see_68 rfl (by decide) ?_
            refine aw_MaldC (pc' := 71) 1 69 hM eX7_see_70 rfl (by decide) (by unfold vp_in; decide) (by decide) ?_
            refine aw_imul (pc' := 72) eX7_see_71 rfl ?_
            refine aw_iadd (pc' := 73) eX7_see_72 rfl ?_
            refine aw_istore (pc' := 75) eX7_see_73 rfl (by decide) ?_
            dsimp only [zst, zst2, zcut]
            refine aw_aload_n (pc' := 76) eX7_see_75 rfl rfl trivial ?_
            refine aw_Mref (pc' := 79) (kf := 0) 1 hM eX7_see_76 rfl (by decide) rfl q789 ?_
            refine aw_iload (pc' := 81) eX7_see_79 rfl rfl ?_
            refine aw_iload_n (pc' := 82) eX7_see_81 rfl rfl ?_
            refine aw_MastC (pc' := 83) 1 (70 + 3 * a) hM eX7_see_82 rfl (by decide) hv6 hx6 (fun h12 hM10 hs11 => ?_)
            refine aw_aload_n (pc' := 84) eX7_see_83 rfl rfl trivial ?_
            refine aw_Mref (pc' := 87) (kf := 0) 1 hM10 eX7_see_84 rfl (by decide) rfl q789 ?_
            refine aw_iload (pc' := 89) eX7_see_87 rfl rfl ?_
            refine aw_iconst (pc' := 90) (v := 1) eX7_see_89 rfl (by decide) ?_
            refine aw_iadd (pc' := 91) eX7_see_90 rfl ?_
            refine aw_iload_n (pc' := 92) eX7_see_91 rfl rfl ?_
            refine aw_MastC (pc' := 93) 1 (71 + 3 * a) hM10 eX7_see_92 rfl (by decide) (show vp_in _ 123 by rw [e7]; exact vp_in_nI (by omega) (by omega)) (by rw [e7]; exact nI_clamp (by omega)) (fun h15 hM13 hs14 => ?_)
            have hT16 := hs11.tr hs14
            refine aw_aload_n (pc' := 94) eX7_see_93 rfl rfl trivial ?_
            refine aw_Mref (pc' := 97) (kf := 0) 1 hM13 eX7_see_94 rfl (by decide) rfl q789 ?_
            refine aw_iload (pc' := 99) eX7_see_97 rfl rfl ?_
            refine aw_iconst (pc' := 100) (v := 2) eX7_see_99 rfl (by decide) ?_
            refine aw_iadd (pc' := 101) eX7_see_100 rfl ?_
            refine aw_iload_n (pc' := 102) eX7_see_101 rfl rfl ?_
            refine aw_MastC (pc' := 103) 1 (72 + 3 * a) hM13 eX7_see_102 rfl (by decide) (show vp_in _ 123 by rw [e8]; exact vp_in_nI (by omega) (by omega)) (by rw [e8]; exact nI_clamp (by omega)) (fun h19 hM17 hs18 => ?_)
            have hT20 := hT16.tr hs18
            refine aw_aload_n (pc' := 104) eX7_see_103 rfl rfl trivial ?_
            refine aw_Mref (pc' := 107) (kf := 0) 1 hM17 eX7_see_104 rfl (by decide) rfl q789 ?_
            refine aw_bipush (pc' := 109) (v := 69) eX7_see_107 rfl (by decide) ?_
            refine aw_dup2 (pc' := 110) eX7_see_109 rfl rfl rfl ?_
            refine aw_MaldC (pc' := 111) 1 69 hM17 eX7_see_110 rfl (by decide) (by unfold vp_in; decide) (by decide) ?_
            refine aw_iconst (pc' := 112) (v := 1) eX7_see_111 rfl (by decide) ?_
            refine aw_iadd (pc' := 113) eX7_see_112 rfl ?_
            refine aw_MastC (pc' := 114) 1 69 hM17 eX7_see_113 rfl (by decide) (by unfold vp_in; decide) (by decide) (fun h23 hM21 hs22 => ?_)
            have hT24 := hT20.tr hs22
            refine aw_aload_n (pc' := 115) eX7_see_114 rfl rfl trivial ?_
            refine aw_Mref (pc' := 118) (kf := 0) 1 hM21 eX7_see_115 rfl (by decide) rfl q789 ?_
            refine aw_bipush (pc' := 120) (v := 69) eX7_see_118 rfl (by decide) ?_
            refine aw_MaldC (pc' := 121) 1 69 hM21 eX7_see_120 rfl (by decide) (by unfold vp_in; decide) (by decide) ?_
            refine aw_ret (v := some (.int _)) eX7_see_121 ⟨rfl, rfl⟩ (by omega) (by omega) rfl ?_
            try simp only [zb_eq0, Bool.not_eq_false, Bool.not_eq_true, decide_eq_true_eq, decide_eq_false_iff_not, Decidable.not_not, hm.1, mi, hs] at c_2 c_20 c_32 c_41 c_55
            have hM9 := hM21
            try simp only [mi, hs, mup_mg, mg_mg, mg_1] at hM9
            refine ⟨?_, ?_, hT24⟩
            · simp [sSee, mi, hm.1, hs, mup1, c_2, c_20, c_32, c_41, c_55]
            · simpa [sSee, mg_id, hm.1, hs, mup1, c_2, c_20, c_32, c_41, c_55] using hM9
          · refine aw_bipush (pc' := 60) (v := -4) eX7_see_58 rfl (by decide) ?_
            refine aw_ret (v := some (.int _)) eX7_see_60 ⟨rfl, rfl⟩ (by omega) (by omega) rfl ?_
            try simp only [zb_eq0, Bool.not_eq_false, Bool.not_eq_true, decide_eq_true_eq, decide_eq_false_iff_not, Decidable.not_not, hm.1, mi, hs] at c_2 c_20 c_32 c_41 c_55
            have hM9 := hM
            try simp only [mi, hs, mup_mg, mg_mg, mg_1] at hM9
            refine ⟨?_, ?_, Same.rf⟩
            · simp [sSee, mi, hm.1, hs, c_2, c_20, c_32, c_41, c_55]
            · simpa [sSee, mg_id, hm.1, hs, c_2, c_20, c_32, c_41, c_55] using hM9
        · refine aw_bipush (pc' := 46) (v := -2) eX7_see_44 rfl (by decide) ?_
          refine aw_ret (v := some (.int _)) eX7_see_46 ⟨rfl, rfl⟩ (by omega) (by omega) rfl ?_
          try simp only [zb_eq0, Bool.not_eq_false, Bool.not_eq_true, decide_eq_true_eq, decide_eq_false_iff_not, Decidable.not_not, hm.1, mi] at c_2 c_20 c_32 c_41
          have hM9 := hM
          try simp only [mi, mup_mg, mg_mg, mg_1] at hM9
          refine ⟨?_, ?_, Same.rf⟩
          · simp [sSee, mi, hm.1, c_2, c_20, c_32, c_41]
          · simpa [sSee, mg_id, hm.1, c_2, c_20, c_32, c_41] using hM9
    · refine aw_iconst (pc' := 24) (v := -1) eX7_see_23 rfl (by decide) ?_
      refine aw_ret (v := some (.int _)) eX7_see_24 ⟨rfl, rfl⟩ (by omega) (by omega) rfl ?_
      try simp only [zb_eq0, Bool.not_eq_false, Bool.not_eq_true, decide_eq_true_eq, decide_eq_false_iff_not, Decidable.not_not, hm.1, mi] at c_2 c_20
      have hM9 := hM
      try simp only [mi, mup_mg, mg_mg, mg_1] at hM9
      refine ⟨?_, ?_, Same.rf⟩
      · simp [sSee, mi, hm.1, c_2, c_20]
      · simpa [sSee, mg_id, hm.1, c_2, c_20] using hM9
  · refine aw_aload_n (pc' := 6) eX7_see_5 rfl rfl trivial ?_
    refine aw_Mref (pc' := 9) (kf := 0) 1 hM eX7_see_6 rfl (by decide) rfl q789 ?_
    refine aw_bipush (pc' := 11) (v := 69) eX7_see_9 rfl (by decide) ?_
    refine aw_iconst (pc' := 12) (v := 0) eX7_see_11 rfl (by decide) ?_
    refine aw_MastC (pc' := 13) 1 69 hM eX7_see_12 rfl (by decide) (by unfold vp_in; decide) (by decide) (fun h27 hM25 hs26 => ?_)
    refine aw_iconst (pc' := 14) (v := 0) eX7_see_13 rfl (by decide) ?_
    refine aw_ret (v := some (.int _)) eX7_see_14 ⟨rfl, rfl⟩ (by omega) (by omega) rfl ?_
    try simp only [zb_eq0, Bool.not_eq_false, Bool.not_eq_true, decide_eq_true_eq, decide_eq_false_iff_not, Decidable.not_not, hm.1, mi] at c_2
    have hM9 := hM25
    try simp only [mi, mup_mg, mg_mg, mg_1] at hM9
    refine ⟨?_, ?_, hs26⟩
    · simp [sSee, mi, hm.1, c_2]
    · simpa [sSee, mg_id, hm.1, c_2] using hM9
def sBook (g : Nat → Int32) (m a : Nat) (t p : Int32) : Int32 × (Nat → Int32) :=
  if t = -1 then (0, upd g 106 0) else if bIn t 0 (nI m - 1) = true ∧ bIn p 0 11 = true then if nI a = 8 then (-4, g) else
    (upd (upd (upd g (107 + 2 * a) t) (108 + 2 * a) p) 106 (upd (upd g (107 + 2 * a) t) (108 + 2 * a) p 106 + 1) 106, upd (upd (upd g (107 + 2 * a) t) (108 + 2 * a) p) 106 (upd (upd g (107 + 2 * a) t) (108 + 2 * a) p 106 + 1)) else (-1, g)
abbrev mX7_book : MT := (RX7, cX7_book, 3, (some .int), false)
theorem eX7_book_0 : decode mX7_book.2.1 0 = .ok (.iload_n 1, 1) := by decide +kernel
theorem eX7_book_1 : decode mX7_book.2.1 1 = .ok (.iconst (-1), 1) := by decide +kernel
theorem eX7_book_2 : decode mX7_book.2.1 2 = .ok (.if_icmp .ne 13, 3) := by decide +kernel
theorem eX7_book_5 : decode mX7_book.2.1 5 = .ok (.aload_n 0, 1) := by decide +kernel
theorem eX7_book_6 : decode mX7_book.2.1 6 = .ok (.getfield 15, 3) := by decide +kernel
theorem eX7_book_9 : decode mX7_book.2.1 9 = .ok (.bipush 106, 2) := by decide +kernel
theorem eX7_book_11 : decode mX7_book.2.1 11 = .ok (.iconst 0, 1) := by decide +kernel
theorem eX7_book_12 : decode mX7_book.2.1 12 = .ok (.iastore, 1) := by decide +kernel
theorem eX7_book_13 : decode mX7_book.2.1 13 = .ok (.iconst 0, 1) := by decide +kernel
theorem eX7_book_14 : decode mX7_book.2.1 14 = .ok (.ireturn, 1) := by decide +kernel
theorem eX7_book_15 : decode mX7_book.2.1 15 = .ok (.aload_n 0, 1) := by decide +kernel
theorem eX7_book_16 : decode mX7_book.2.1 16 = .ok (.iload_n 1, 1) := by decide +kernel
theorem eX7_book_17 : decode mX7_book.2.1 17 = .ok (.invokevirtual 88, 3) := by decide +kernel
theorem eX7_book_20 : decode mX7_book.2.1 20 = .ok (.ifCond .eq 10, 3) := by decide +kernel
theorem eX7_book_23 : decode mX7_book.2.1 23 = .ok (.iload_n 2, 1) := by decide +kernel
theorem eX7_book_24 : decode mX7_book.2.1 24 = .ok (.invokestatic 120, 3) := by decide +kernel
theorem eX7_book_27 : decode mX7_book.2.1 27 = .ok (.ifCond .ne 5, 3) := by decide +kernel
theorem eX7_book_30 : decode mX7_book.2.1 30 = .ok (.iconst (-1), 1) := by decide +kernel
theorem eX7_book_31 : decode mX7_book.2.1 31 = .ok (.ireturn, 1) := by decide +kernel
theorem eX7_book_32 : decode mX7_book.2.1 32 = .ok (.aload_n 0, 1) := by decide +kernel
theorem eX7_book_33 : decode mX7_book.2.1 33 = .ok (.getfield 15, 3) := by decide +kernel
theorem eX7_book_36 : decode mX7_book.2.1 36 = .ok (.bipush 106, 2) := by decide +kernel
theorem eX7_book_38 : decode mX7_book.2.1 38 = .ok (.iaload, 1) := by decide +kernel
theorem eX7_book_39 : decode mX7_book.2.1 39 = .ok (.bipush 8, 2) := by decide +kernel
theorem eX7_book_41 : decode mX7_book.2.1 41 = .ok (.if_icmp .ne 6, 3) := by decide +kernel
theorem eX7_book_44 : decode mX7_book.2.1 44 = .ok (.bipush (-4), 2) := by decide +kernel
theorem eX7_book_46 : decode mX7_book.2.1 46 = .ok (.ireturn, 1) := by decide +kernel
theorem eX7_book_47 : decode mX7_book.2.1 47 = .ok (.aload_n 0, 1) := by decide +kernel
theorem eX7_book_48 : decode mX7_book.2.1 48 = .ok (.getfield 15, 3) := by decide +kernel
theorem eX7_book_51 : decode mX7_book.2.1 51 = .ok (.bipush 107, 2) := by decide +kernel
theorem eX7_book_53 : decode mX7_book.2.1 53 = .ok (.iconst 2, 1) := by decide +kernel
theorem eX7_book_54 : decode mX7_book.2.1 54 = .ok (.aload_n 0, 1) := by decide +kernel
theorem eX7_book_55 : decode mX7_book.2.1 55 = .ok (.getfield 15, 3) := by decide +kernel
theorem eX7_book_58 : decode mX7_book.2.1 58 = .ok (.bipush 106, 2) := by decide +kernel
theorem eX7_book_60 : decode mX7_book.2.1 60 = .ok (.iaload, 1) := by decide +kernel
theorem eX7_book_61 : decode mX7_book.2.1 61 = .ok (.imul, 1) := by decide +kernel
theorem eX7_book_62 : decode mX7_book.2.1 62 = .ok (.iadd, 1) := by decide +kernel
theorem eX7_book_63 : decode mX7_book.2.1 63 = .ok (.iload_n 1, 1) := by decide +kernel
theorem eX7_book_64 : decode mX7_book.2.1 64 = .ok (.iastore, 1) := by decide +kernel
theorem eX7_book_65 : decode mX7_book.2.1 65 = .ok (.aload_n 0, 1) := by decide +kernel
theorem eX7_book_66 : decode mX7_book.2.1 66 = .ok (.getfield 15, 3) := by decide +kernel
theorem eX7_book_69 : decode mX7_book.2.1 69 = .ok (.bipush 108, 2) := by decide +kernel
theorem eX7_book_71 : decode mX7_book.2.1 71 = .ok (.iconst 2, 1) := by decide +kernel
theorem eX7_book_72 : decode mX7_book.2.1 72 = .ok (.aload_n 0, 1) := by decide +kernel
theorem eX7_book_73 : decode mX7_book.2.1 73 = .ok (.getfield 15, 3) := by decide +kernel
theorem eX7_book_76 : decode mX7_book.2.1 76 = .ok (.bipush 106, 2) := by decide +kernel
theorem eX7_book_78 : decode mX7_book.2.1 78 = .ok (.iaload, 1) := by decide +kernel
theorem eX7_book_79 : decode mX7_book.2.1 79 = .ok (.imul, 1) := by decide +kernel
theorem eX7_book_80 : decode mX7_book.2.1 80 = .ok (.iadd, 1) := by decide +kernel
theorem eX7_book_81 : decode mX7_book.2.1 81 = .ok (.iload_n 2, 1) := by decide +kernel
theorem eX7_book_82 : decode mX7_book.2.1 82 = .ok (.iastore, 1) := by decide +kernel
theorem eX7_book_83 : decode mX7_book.2.1 83 = .ok (.aload_n 0, 1) := by decide +kernel
theorem eX7_book_84 : decode mX7_book.2.1 84 = .ok (.getfield 15, 3) := by decide +kernel
theorem eX7_book_87 : decode mX7_book.2.1 87 = .ok (.bipush 106, 2) := by decide +kernel
theorem eX7_book_89 : decode mX7_book.2.1 89 = .ok (.dup2, 1) := by decide +kernel
theorem eX7_book_90 : decode mX7_book.2.1 90 = .ok (.iaload, 1) := by decide +kernel
theorem eX7_book_91 : decode mX7_book.2.1 91 = .ok (.iconst 1, 1) := by decide +kernel
theorem eX7_book_92 : decode mX7_book.2.1 92 = .ok (.iadd, 1) := by decide +kernel
theorem eX7_book_93 : decode mX7_book.2.1 93 = .ok (.iastore, 1) := by decide +kernel
theorem eX7_book_94 : decode mX7_book.2.1 94 = .ok (.aload_n 0, 1) := by decide +kernel
theorem eX7_book_95 : decode mX7_book.2.1 95 = .ok (.getfield 15, 3) := by decide +kernel
theorem eX7_book_98 : decode mX7_book.2.1 98 = .ok (.bipush 106, 2) := by decide +kernel
theorem eX7_book_100 : decode mX7_book.2.1 100 = .ok (.iaload, 1) := by decide +kernel
theorem eX7_book_101 : decode mX7_book.2.1 101 = .ok (.ireturn, 1) := by decide +kernel
theorem c_X7_book (hM : MAt h u U) {m : Nat} (hm : mOk U m) {a : Nat} (ha : a ≤ 8) (hs : U.1 1 106 = nI a) (t p : Int32) (hd : 2 ≤ d) : Ct l G mX7_book yX7_book d 0 0 [.ref u, .int t, .int p] h (fun r h' => r = some (.int (sBook (U.1 1) m a t p).1) ∧ MAt h' u (mg U (sBook (U.1 1) m a t p).2) ∧ Same u 19 h h') := by
  refine ct_of (lv := [some (.ref u), some (.int t), some (.int p)]) (by decide +kernel) rfl (fun z => by cases z) (fun _ => rfl) (fun _ => Nat.le_of_ble_eq_true rfl) ?_
  refine aw_iload_n (pc' := 1) eX7_book_0 rfl rfl ?_
  refine aw_iconst (pc' := 2) (v := -1) eX7_book_1 rfl (by decide) ?_
  refine aw_icmp_ne (pc' := 5) (tgt := 15) eX7_book_2 rfl (by decide) (fun c_2 => ?_) (fun c_2 => ?_)
  · refine aw_aload_n (pc' := 16) eX7_book_15 rfl rfl trivial ?_
    refine aw_iload_n (pc' := 17) eX7_book_16 rfl rfl ?_
    refine aw_callv (pc' := 20) (nn := 1) (c_X7_isOne (d := d - 1) hM _ (by omega)) eX7_book_17 rfl ⟨q897, q900, q62⟩ q899 q21 ⟨rfl, by decide +kernel, by decide +kernel, by decide +kernel⟩ rfl (by rw [hM.2.1]; exact ⟨rfl, rfl⟩) rfl ⟨by omega, by decide⟩ ⟨by omega, by omega⟩ rfl (Nat.le_of_ble_eq_true rfl) (fun v1 h2 hq3 => ?_)
    obtain ⟨rfl, rfl⟩ := hq3
    dsimp only [Option.toList, List.cons_append, List.nil_append]
    refine aw_if_eq (pc' := 23) (tgt := 30) eX7_book_20 rfl (by decide) (fun c_20 => ?_) (fun c_20 => ?_)
    · refine aw_iconst (pc' := 31) (v := -1) eX7_book_30 rfl (by decide) ?_
      refine aw_ret (v := some (.int _)) eX7_book_31 ⟨rfl, rfl⟩ (by omega) (by omega) rfl ?_
      try simp only [zb_eq0, Bool.not_eq_false, Bool.not_eq_true, decide_eq_true_eq, decide_eq_false_iff_not, Decidable.not_not, hm.1, mi] at c_2 c_20
      have hM9 := hM
      try simp only [mi, mup_mg, mg_mg, mg_1] at hM9
      refine ⟨?_, ?_, Same.rf⟩
      · simp [sBook, mi, hm.1, c_2, c_20]
      · simpa [sBook, mg_id, hm.1, c_2, c_20] using hM9
    · refine aw_iload_n (pc' := 24) eX7_book_23 rfl rfl ?_
      refine aw_calls (pc' := 27) (nn := 1) (c_X7_isPlace (d := d - 1) _ (by omega)) eX7_book_24 rfl ⟨q1017, q1019, q62⟩ q1018 ⟨by decide +kernel, by decide +kernel, by decide +kernel⟩ rfl ⟨by omega, by decide⟩ ⟨by omega, by omega⟩ rfl (Nat.le_of_ble_eq_true rfl) (fun v4 h5 hq6 => ?_)
      obtain ⟨rfl, rfl⟩ := hq6
      dsimp only [Option.toList, List.cons_append, List.nil_append]
      refine aw_if_ne (pc' := 30) (tgt := 32) eX7_book_27 rfl (by decide) (fun c_27 => ?_) (fun c_27 => ?_)
      · refine aw_aload_n (pc' := 33) eX7_book_32 rfl rfl trivial ?_
        refine aw_Mref (pc' := 36) (kf := 0) 1 hM eX7_book_33 rfl (by decide) rfl q789 ?_
        refine aw_bipush (pc' := 38) (v := 106) eX7_book_36 rfl (by decide) ?_
        refine aw_MaldC (pc' := 39) 1 106 hM eX7_book_38 rfl (by decide) (by unfold vp_in; decide) (by decide) ?_
        refine aw_bipush (pc' := 41) (v := 8) eX7_book_39 rfl (by decide) ?_
        refine aw_icmp_ne (pc' := 44) (tgt := 47) eX7_book_41 rfl (by decide) (fun c_41 => ?_) (fun c_41 => ?_)
        · rw [hs] at c_41
          have ha5 : a < 8 := by
            rcases Nat.lt_or_ge a 8 with z | z
            · exact z
            · exact absurd (by rw [show a = 8 by omega]; rfl) c_41
          have hx6 : (107 + 2 * U.1 1 106).toNatClampNeg = 107 + 2 * a := by rw [hs]; exact (ix3 (c := 107) (b := 2) (by omega)).1
          have hv6 : vp_in (107 + 2 * U.1 1 106) 123 := by rw [hs]; exact (ix3 (c := 107) (b := 2) (by omega)).2
          have e7 : ∀ x : Int32, (mup U 1 (107 + 2 * a) x).1 1 106 = nI a := fun x => by rw [mup1, upd_ne (by omega)]; exact hs
          have hx7 : ∀ x : Int32, (108 + 2 * (mup U 1 (107 + 2 * a) x).1 1 106).toNatClampNeg = 108 + 2 * a := fun x => by rw [e7]; exact (ix3 (c := 108) (b := 2) (by omega)).1
          have hv7 : ∀ x : Int32, vp_in (108 + 2 * (mup U 1 (107 + 2 * a) x).1 1 106) 123 := fun x => by rw [e7]; exact (ix3 (c := 108) (b := 2) (by omega)).2
          refine aw_aload_n (pc' := 48) eX7_book_47 rfl rfl trivial ?_
          refine aw_Mref (pc' := 51) (kf := 0) 1 hM eX7_book_48 rfl (by decide) rfl q789 ?_
          refine aw_bipush (pc' := 53) (v := 107) eX7_book_51 rfl (by decide) ?_
          refine aw_iconst (pc' := 54) (v := 2) eX7_book_53 rfl (by decide) ?_
          refine aw_aload_n (pc' := 55) eX7_book_54 rfl rfl trivial ?_
          refine aw_Mref (pc' := 58) (kf := 0) 1 hM eX7_book_55 rfl (by decide) rfl q789 ?_
          refine aw_bipush (pc' := 60) (v := 106) eX7_book_58 rfl (by decide) ?_
          refine aw_MaldC (pc' := 61) 1 106 hM eX7_book_60 rfl (by decide) (by unfold vp_in; decide) (by decide) ?_
          refine aw_imul (pc' := 62) eX7_book_61 rfl ?_
          refine aw_iadd (pc' := 63) eX7_book_62 rfl ?_
          refine aw_iload_n (pc' := 64) eX7_book_63 rfl rfl ?_
          refine aw_MastC (pc' := 65) 1 (107 + 2 * a) hM eX7_book_64 rfl (by decide) hv6 hx6 (fun h9 hM7 hs8 => ?_)
          refine aw_aload_n (pc' := 66) eX7_book_65 rfl rfl trivial ?_
          refine aw_Mref (pc' := 69) (kf := 0) 1 hM7 eX7_book_66 rfl (by decide) rfl q789 ?_
          refine aw_bipush (pc' := 71) (v := 108) eX7_book_69 rfl (by decide) ?_
          refine aw_iconst (pc' := 72) (v := 2) eX7_book_71 rfl (by decide) ?_
          refine aw_aload_n (pc' := 73) eX7_book_72 rfl rfl trivial ?_
          refine aw_Mref (pc' := 76) (kf := 0) 1 hM7 eX7_book_73 rfl (by decide) rfl q789 ?_
          refine aw_bipush (pc' := 78) (v := 106) eX7_book_76 rfl (by decide) ?_
          refine aw_MaldC (pc' := 79) 1 106 hM7 eX7_book_78 rfl (by decide) (by unfold vp_in; decide) (by decide) ?_
          refine aw_imul (pc' := 80) eX7_book_79 rfl ?_
          refine aw_iadd (pc' := 81) eX7_book_80 rfl ?_
          refine aw_iload_n (pc' := 82) eX7_book_81 rfl rfl ?_
          refine aw_MastC (pc' := 83) 1 (108 + 2 * a) hM7 eX7_book_82 rfl (by decide) (hv7 _) (hx7 _) (fun h12 hM10 hs11 => ?_)
          have hT13 := hs8.tr hs11
          refine aw_aload_n (pc' := 84) eX7_book_83 rfl rfl trivial ?_
          refine aw_Mref (pc' := 87) (kf := 0) 1 hM10 eX7_book_84 rfl (by decide) rfl q789 ?_
          refine aw_bipush (pc' := 89) (v := 106) eX7_book_87 rfl (by decide) ?_
          refine aw_dup2 (pc' := 90) eX7_book_89 rfl rfl rfl ?_
          refine aw_MaldC (pc' := 91) 1 106 hM10 eX7_book_90 rfl (by decide) (by unfold vp_in; decide) (by decide) ?_
          refine aw_iconst (pc' := 92) (v := 1) eX7_book_91 rfl (by decide) ?_
          refine aw_iadd (pc' := 93) eX7_book_92 rfl ?_
          refine aw_MastC (pc' := 94) 1 106 hM10 eX7_book_93 rfl (by decide) (by unfold vp_in; decide) (by decide) (fun h16 hM14 hs15 => ?_)
          have hT17 := hT13.tr hs15
          refine aw_aload_n (pc' := 95) eX7_book_94 rfl rfl trivial ?_
          refine aw_Mref (pc' := 98) (kf := 0) 1 hM14 eX7_book_95 rfl (by decide) rfl q789 ?_
          refine aw_bipush (pc' := 100) (v := 106) eX7_book_98 rfl (by decide) ?_
          refine aw_MaldC (pc' := 101) 1 106 hM14 eX7_book_100 rfl (by decide) (by unfold vp_in; decide) (by decide) ?_
          refine aw_ret (v := some (.int _)) eX7_book_101 ⟨rfl, rfl⟩ (by omega) (by omega) rfl ?_
          try simp only [zb_eq0, Bool.not_eq_false, Bool.not_eq_true, decide_eq_true_eq, decide_eq_false_iff_not, Decidable.not_not, hm.1, mi, hs] at c_2 c_20 c_27 c_41
          have hM9 := hM14
          try simp only [mi, hs, mup_mg, mg_mg, mg_1] at hM9
          refine ⟨?_, ?_, hT17⟩
          · simp [sBook, mi, hm.1, hs, mup1, c_2, c_20, c_27, c_41]
          · simpa [sBook, mg_id, hm.1, hs, mup1, c_2, c_20, c_27, c_41] using hM9
        · refine aw_bipush (pc' := 46) (v := -4) eX7_book_44 rfl (by decide) ?_
          refine aw_ret (v := some (.int _)) eX7_book_46 ⟨rfl, rfl⟩ (by omega) (by omega) rfl ?_
          try simp only [zb_eq0, Bool.not_eq_false, Bool.not_eq_true, decide_eq_true_eq, decide_eq_false_iff_not, Decidable.not_not, hm.1, mi, hs] at c_2 c_20 c_27 c_41
          have hM9 := hM
          try simp only [mi, hs, mup_mg, mg_mg, mg_1] at hM9
          refine ⟨?_, ?_, Same.rf⟩
          · simp [sBook, mi, hm.1, hs, c_2, c_20, c_27, c_41]
          · simpa [sBook, mg_id, hm.1, hs, c_2, c_20, c_27, c_41] using hM9
      · refine aw_iconst (pc' := 31) (v := -1) eX7_book_30 rfl (by decide) ?_
        refine aw_ret (v := some (.int _)) eX7_book_31 ⟨rfl, rfl⟩ (by omega) (by omega) rfl ?_
        try simp only [zb_eq0, Bool.not_eq_false, Bool.not_eq_true, decide_eq_true_eq, decide_eq_false_iff_not, Decidable.not_not, hm.1, mi] at c_2 c_20 c_27
        have hM9 := hM
        try simp only [mi, mup_mg, mg_mg, mg_1] at hM9
        refine ⟨?_, ?_, Same.rf⟩
        · simp [sBook, mi, hm.1, c_2, c_20, c_27]
        · simpa [sBook, mg_id, hm.1, c_2, c_20, c_27] using hM9
  · refine aw_aload_n (pc' := 6) eX7_book_5 rfl rfl trivial ?_
    refine aw_Mref (pc' := 9) (kf := 0) 1 hM eX7_book_6 rfl (by decide) rfl q789 ?_
    refine aw_bipush (pc' := 11) (v := 106) eX7_book_9 rfl (by decide) ?_
    refine aw_iconst (pc' := 12) (v := 0) eX7_book_11 rfl (by decide) ?_
    refine aw_MastC (pc' := 13) 1 106 hM eX7_book_12 rfl (by decide) (by unfold vp_in; decide) (by decide) (fun h20 hM18 hs19 => ?_)
    refine aw_iconst (pc' := 14) (v := 0) eX7_book_13 rfl (by decide) ?_
    refine aw_ret (v := some (.int _)) eX7_book_14 ⟨rfl, rfl⟩ (by omega) (by omega) rfl ?_
    try simp only [zb_eq0, Bool.not_eq_false, Bool.not_eq_true, decide_eq_true_eq, decide_eq_false_iff_not, Decidable.not_not, hm.1, mi] at c_2
    have hM9 := hM18
    try simp only [mi, mup_mg, mg_mg, mg_1] at hM9
    refine ⟨?_, ?_, hs19⟩
    · simp [sBook, mi, hm.1, c_2]
    · simpa [sBook, mg_id, hm.1, c_2] using hM9
def sPlanOk (m : Nat) (t p : Int32) : Bool := decide (t = 0) || ((decide (t = 1) || decide (t = 2)) && bIn p 0 (nI m - 1)) || (decide (t = 3) && bIn p 0 11)
def sPlan (g : Nat → Int32) (m a : Nat) (t p : Int32) : Int32 × (Nat → Int32) :=
  if t = -1 then (0, upd g 85 0) else if sPlanOk m t p = true then if nI a = 10 then (-4, g) else
    (upd (upd (upd g (86 + 2 * a) t) (87 + 2 * a) p) 85 (upd (upd g (86 + 2 * a) t) (87 + 2 * a) p 85 + 1) 85, upd (upd (upd g (86 + 2 * a) t) (87 + 2 * a) p) 85 (upd (upd g (86 + 2 * a) t) (87 + 2 * a) p 85 + 1)) else (-1, g)
abbrev mX7_plan : MT := (RX7, cX7_plan, 4, (some .int), false)
theorem eX7_plan_0 : decode mX7_plan.2.1 0 = .ok (.iload_n 1, 1) := by decide +kernel
theorem eX7_plan_1 : decode mX7_plan.2.1 1 = .ok (.iconst (-1), 1) := by decide +kernel
theorem eX7_plan_2 : decode mX7_plan.2.1 2 = .ok (.if_icmp .ne 13, 3) := by decide +kernel
theorem eX7_plan_5 : decode mX7_plan.2.1 5 = .ok (.aload_n 0, 1) := by decide +kernel
theorem eX7_plan_6 : decode mX7_plan.2.1 6 = .ok (.getfield 15, 3) := by decide +kernel
theorem eX7_plan_9 : decode mX7_plan.2.1 9 = .ok (.bipush 85, 2) := by decide +kernel
theorem eX7_plan_11 : decode mX7_plan.2.1 11 = .ok (.iconst 0, 1) := by decide +kernel
theorem eX7_plan_12 : decode mX7_plan.2.1 12 = .ok (.iastore, 1) := by decide +kernel
theorem eX7_plan_13 : decode mX7_plan.2.1 13 = .ok (.iconst 0, 1) := by decide +kernel
theorem eX7_plan_14 : decode mX7_plan.2.1 14 = .ok (.ireturn, 1) := by decide +kernel
theorem eX7_plan_15 : decode mX7_plan.2.1 15 = .ok (.iload_n 1, 1) := by decide +kernel
theorem eX7_plan_16 : decode mX7_plan.2.1 16 = .ok (.ifCond .eq 33, 3) := by decide +kernel
theorem eX7_plan_19 : decode mX7_plan.2.1 19 = .ok (.iload_n 1, 1) := by decide +kernel
theorem eX7_plan_20 : decode mX7_plan.2.1 20 = .ok (.iconst 1, 1) := by decide +kernel
theorem eX7_plan_21 : decode mX7_plan.2.1 21 = .ok (.if_icmp .eq 8, 3) := by decide +kernel
theorem eX7_plan_24 : decode mX7_plan.2.1 24 = .ok (.iload_n 1, 1) := by decide +kernel
theorem eX7_plan_25 : decode mX7_plan.2.1 25 = .ok (.iconst 2, 1) := by decide +kernel
theorem eX7_plan_26 : decode mX7_plan.2.1 26 = .ok (.if_icmp .ne 11, 3) := by decide +kernel
theorem eX7_plan_29 : decode mX7_plan.2.1 29 = .ok (.aload_n 0, 1) := by decide +kernel
theorem eX7_plan_30 : decode mX7_plan.2.1 30 = .ok (.iload_n 2, 1) := by decide +kernel
theorem eX7_plan_31 : decode mX7_plan.2.1 31 = .ok (.invokevirtual 88, 3) := by decide +kernel
theorem eX7_plan_34 : decode mX7_plan.2.1 34 = .ok (.ifCond .ne 15, 3) := by decide +kernel
theorem eX7_plan_37 : decode mX7_plan.2.1 37 = .ok (.iload_n 1, 1) := by decide +kernel
theorem eX7_plan_38 : decode mX7_plan.2.1 38 = .ok (.iconst 3, 1) := by decide +kernel
theorem eX7_plan_39 : decode mX7_plan.2.1 39 = .ok (.if_icmp .ne 14, 3) := by decide +kernel
theorem eX7_plan_42 : decode mX7_plan.2.1 42 = .ok (.iload_n 2, 1) := by decide +kernel
theorem eX7_plan_43 : decode mX7_plan.2.1 43 = .ok (.invokestatic 120, 3) := by decide +kernel
theorem eX7_plan_46 : decode mX7_plan.2.1 46 = .ok (.ifCond .eq 7, 3) := by decide +kernel
theorem eX7_plan_49 : decode mX7_plan.2.1 49 = .ok (.iconst 1, 1) := by decide +kernel
theorem eX7_plan_50 : decode mX7_plan.2.1 50 = .ok (.goto 4, 3) := by decide +kernel
theorem eX7_plan_53 : decode mX7_plan.2.1 53 = .ok (.iconst 0, 1) := by decide +kernel
theorem eX7_plan_54 : decode mX7_plan.2.1 54 = .ok (.istore_n 3, 1) := by decide +kernel
theorem eX7_plan_55 : decode mX7_plan.2.1 55 = .ok (.iload_n 3, 1) := by decide +kernel
theorem eX7_plan_56 : decode mX7_plan.2.1 56 = .ok (.ifCond .ne 5, 3) := by decide +kernel
theorem eX7_plan_59 : decode mX7_plan.2.1 59 = .ok (.iconst (-1), 1) := by decide +kernel
theorem eX7_plan_60 : decode mX7_plan.2.1 60 = .ok (.ireturn, 1) := by decide +kernel
theorem eX7_plan_61 : decode mX7_plan.2.1 61 = .ok (.aload_n 0, 1) := by decide +kernel
theorem eX7_plan_62 : decode mX7_plan.2.1 62 = .ok (.getfield 15, 3) := by decide +kernel
theorem eX7_plan_65 : decode mX7_plan.2.1 65 = .ok (.bipush 85, 2) := by decide +kernel
theorem eX7_plan_67 : decode mX7_plan.2.1 67 = .ok (.iaload, 1) := by decide +kernel
theorem eX7_plan_68 : decode mX7_plan.2.1 68 = .ok (.bipush 10, 2) := by decide +kernel
theorem eX7_plan_70 : decode mX7_plan.2.1 70 = .ok (.if_icmp .ne 6, 3) := by decide +kernel
theorem eX7_plan_73 : decode mX7_plan.2.1 73 = .ok (.bipush (-4), 2) := by decide +kernel
theorem eX7_plan_75 : decode mX7_plan.2.1 75 = .ok (.ireturn, 1) := by decide +kernel
theorem eX7_plan_76 : decode mX7_plan.2.1 76 = .ok (.aload_n 0, 1) := by decide +kernel
theorem eX7_plan_77 : decode mX7_plan.2.1 77 = .ok (.getfield 15, 3) := by decide +kernel
theorem eX7_plan_80 : decode mX7_plan.2.1 80 = .ok (.bipush 86, 2) := by decide +kernel
theorem eX7_plan_82 : decode mX7_plan.2.1 82 = .ok (.iconst 2, 1) := by decide +kernel
theorem eX7_plan_83 : decode mX7_plan.2.1 83 = .ok (.aload_n 0, 1) := by decide +kernel
theorem eX7_plan_84 : decode mX7_plan.2.1 84 = .ok (.getfield 15, 3) := by decide +kernel
theorem eX7_plan_87 : decode mX7_plan.2.1 87 = .ok (.bipush 85, 2) := by decide +kernel
theorem eX7_plan_89 : decode mX7_plan.2.1 89 = .ok (.iaload, 1) := by decide +kernel
theorem eX7_plan_90 : decode mX7_plan.2.1 90 = .ok (.imul, 1) := by decide +kernel
theorem eX7_plan_91 : decode mX7_plan.2.1 91 = .ok (.iadd, 1) := by decide +kernel
theorem eX7_plan_92 : decode mX7_plan.2.1 92 = .ok (.iload_n 1, 1) := by decide +kernel
theorem eX7_plan_93 : decode mX7_plan.2.1 93 = .ok (.iastore, 1) := by decide +kernel
theorem eX7_plan_94 : decode mX7_plan.2.1 94 = .ok (.aload_n 0, 1) := by decide +kernel
theorem eX7_plan_95 : decode mX7_plan.2.1 95 = .ok (.getfield 15, 3) := by decide +kernel
theorem eX7_plan_98 : decode mX7_plan.2.1 98 = .ok (.bipush 87, 2) := by decide +kernel
theorem eX7_plan_100 : decode mX7_plan.2.1 100 = .ok (.iconst 2, 1) := by decide +kernel
theorem eX7_plan_101 : decode mX7_plan.2.1 101 = .ok (.aload_n 0, 1) := by decide +kernel
theorem eX7_plan_102 : decode mX7_plan.2.1 102 = .ok (.getfield 15, 3) := by decide +kernel
theorem eX7_plan_105 : decode mX7_plan.2.1 105 = .ok (.bipush 85, 2) := by decide +kernel
theorem eX7_plan_107 : decode mX7_plan.2.1 107 = .ok (.iaload, 1) := by decide +kernel
theorem eX7_plan_108 : decode mX7_plan.2.1 108 = .ok (.imul, 1) := by decide +kernel
theorem eX7_plan_109 : decode mX7_plan.2.1 109 = .ok (.iadd, 1) := by decide +kernel
theorem eX7_plan_110 : decode mX7_plan.2.1 110 = .ok (.iload_n 2, 1) := by decide +kernel
theorem eX7_plan_111 : decode mX7_plan.2.1 111 = .ok (.iastore, 1) := by decide +kernel
theorem eX7_plan_112 : decode mX7_plan.2.1 112 = .ok (.aload_n 0, 1) := by decide +kernel
theorem eX7_plan_113 : decode mX7_plan.2.1 113 = .ok (.getfield 15, 3) := by decide +kernel
theorem eX7_plan_116 : decode mX7_plan.2.1 116 = .ok (.bipush 85, 2) := by decide +kernel
theorem eX7_plan_118 : decode mX7_plan.2.1 118 = .ok (.dup2, 1) := by decide +kernel
theorem eX7_plan_119 : decode mX7_plan.2.1 119 = .ok (.iaload, 1) := by decide +kernel
theorem eX7_plan_120 : decode mX7_plan.2.1 120 = .ok (.iconst 1, 1) := by decide +kernel
theorem eX7_plan_121 : decode mX7_plan.2.1 121 = .ok (.iadd, 1) := by decide +kernel
theorem eX7_plan_122 : decode mX7_plan.2.1 122 = .ok (.iastore, 1) := by decide +kernel
theorem eX7_plan_123 : decode mX7_plan.2.1 123 = .ok (.aload_n 0, 1) := by decide +kernel
theorem eX7_plan_124 : decode mX7_plan.2.1 124 = .ok (.getfield 15, 3) := by decide +kernel
theorem eX7_plan_127 : decode mX7_plan.2.1 127 = .ok (.bipush 85, 2) := by decide +kernel
theorem eX7_plan_129 : decode mX7_plan.2.1 129 = .ok (.iaload, 1) := by decide +kernel
theorem eX7_plan_130 : decode mX7_plan.2.1 130 = .ok (.ireturn, 1) := by decide +kernel
theorem c_X7_plan (hM : MAt h u U) {m : Nat} (hm : mOk U m) {a : Nat} (ha : a ≤ 10) (hs : U.1 1 85 = nI a) (t p : Int32) (hd : 2 ≤ d) : Ct l G mX7_plan yX7_plan d 0 0 [.ref u, .int t, .int p] h (fun r h' => r = some (.int (sPlan (U.1 1) m a t p).1) ∧ MAt h' u (mg U (sPlan (U.1 1) m a t p).2) ∧ Same u 19 h h') := by
  refine ct_of (lv := [some (.ref u), some (.int t), some (.int p), none]) (by decide +kernel) rfl (fun z => by cases z) (fun _ => rfl) (fun _ => Nat.le_of_ble_eq_true rfl) ?_
  refine aw_iload_n (pc' := 1) eX7_plan_0 rfl rfl ?_
  refine aw_iconst (pc' := 2) (v := -1) eX7_plan_1 rfl (by decide) ?_
  refine aw_icmp_ne (pc' := 5) (tgt := 15) eX7_plan_2 rfl (by decide) (fun c_2 => ?_) (fun c_2 => ?_)
  · refine aw_iload_n (pc' := 16) eX7_plan_15 rfl rfl ?_
    refine aw_if_eq (pc' := 19) (tgt := 49) eX7_plan_16 rfl (by decide) (fun c_16 => ?_) (fun c_16 => ?_)
    · refine aw_iconst (pc' := 50) (v := 1) eX7_plan_49 rfl (by decide) ?_
      refine aw_goto eX7_plan_50 (by decide) (tgt := 54) ?_
      refine aw_istore_n (pc' := 55) eX7_plan_54 rfl (by decide) ?_
      dsimp only [zst, zst2, zcut]
      refine aw_iload_n (pc' := 56) eX7_plan_55 rfl rfl ?_
      refine aw_if_ne (pc' := 59) (tgt := 61) eX7_plan_56 rfl (by decide) (fun c_56 => ?_) (fun c_56 => ?_)
      · refine aw_aload_n (pc' := 62) eX7_plan_61 rfl rfl trivial ?_
        refine aw_Mref (pc' := 65) (kf := 0) 1 hM eX7_plan_62 rfl (by decide) rfl q789 ?_
        refine aw_bipush (pc' := 67) (v := 85) eX7_plan_65 rfl (by decide) ?_
        refine aw_MaldC (pc' := 68) 1 85 hM eX7_plan_67 rfl (by decide) (by unfold vp_in; decide) (by decide) ?_
        refine aw_bipush (pc' := 70) (v := 10) eX7_plan_68 rfl (by decide) ?_
        refine aw_icmp_ne (pc' := 73) (tgt := 76) eX7_plan_70 rfl (by decide) (fun c_70 => ?_) (fun c_70 => ?_)
        · rw [hs] at c_70
          have ha5 : a < 10 := by
            rcases Nat.lt_or_ge a 10 with z | z
            · exact z
            · exact absurd (by rw [show a = 10 by omega]; rfl) c_70
          have hx6 : (86 + 2 * U.1 1 85).toNatClampNeg = 86 + 2 * a := by rw [hs]; exact (ix3 (c := 86) (b := 2) (by omega)).1
          have hv6 : vp_in (86 + 2 * U.1 1 85) 123 := by rw [hs]; exact (ix3 (c := 86) (b := 2) (by omega)).2
          have e7 : ∀ x : Int32, (mup U 1 (86 + 2 * a) x).1 1 85 = nI a := fun x => by rw [mup1, upd_ne (by omega)]; exact hs
          have hx7 : ∀ x : Int32, (87 + 2 * (mup U 1 (86 + 2 * a) x).1 1 85).toNatClampNeg = 87 + 2 * a := fun x => by rw [e7]; exact (ix3 (c := 87) (b := 2) (by omega)).1
          have hv7 : ∀ x : Int32, vp_in (87 + 2 * (mup U 1 (86 + 2 * a) x).1 1 85) 123 := fun x => by rw [e7]; exact (ix3 (c := 87) (b := 2) (by omega)).2
          refine aw_aload_n (pc' := 77) eX7_plan_76 rfl rfl trivial ?_
          refine aw_Mref (pc' := 80) (kf := 0) 1 hM eX7_plan_77 rfl (by decide) rfl q789 ?_
          refine aw_bipush (pc' := 82) (v := 86) eX7_plan_80 rfl (by decide) ?_
          refine aw_iconst (pc' := 83) (v := 2) eX7_plan_82 rfl (by decide) ?_
          refine aw_aload_n (pc' := 84) eX7_plan_83 rfl rfl trivial ?_
          refine aw_Mref (pc' := 87) (kf := 0) 1 hM eX7_plan_84 rfl (by decide) rfl q789 ?_
          refine aw_bipush (pc' := 89) (v := 85) eX7_plan_87 rfl (by decide) ?_
          refine aw_MaldC (pc' := 90) 1 85 hM eX7_plan_89 rfl (by decide) (by unfold vp_in; decide) (by decide) ?_
          refine aw_imul (pc' := 91) eX7_plan_90 rfl ?_
          refine aw_iadd (pc' := 92) eX7_plan_91 rfl ?_
          refine aw_iload_n (pc' := 93) eX7_plan_92 rfl rfl ?_
          refine aw_MastC (pc' := 94) 1 (86 + 2 * a) hM eX7_plan_93 rfl (by decide) hv6 hx6 (fun h3 hM1 hs2 => ?_)
          refine aw_aload_n (pc' := 95) eX7_plan_94 rfl rfl trivial ?_
          refine aw_Mref (pc' := 98) (kf := 0) 1 hM1 eX7_plan_95 rfl (by decide) rfl q789 ?_
          refine aw_bipush (pc' := 100) (v := 87) eX7_plan_98 rfl (by decide) ?_
          refine aw_iconst (pc' := 101) (v := 2) eX7_plan_100 rfl (by decide) ?_
          refine aw_aload_n (pc' := 102) eX7_plan_101 rfl rfl trivial ?_
          refine aw_Mref (pc' := 105) (kf := 0) 1 hM1 eX7_plan_102 rfl (by decide) rfl q789 ?_
          refine aw_bipush (pc' := 107) (v := 85) eX7_plan_105 rfl (by decide) ?_
          refine aw_MaldC (pc' := 108) 1 85 hM1 eX7_plan_107 rfl (by decide) (by unfold vp_in; decide) (by decide) ?_
          refine aw_imul (pc' := 109) eX7_plan_108 rfl ?_
          refine aw_iadd (pc' := 110) eX7_plan_109 rfl ?_
          refine aw_iload_n (pc' := 111) eX7_plan_110 rfl rfl ?_
          refine aw_MastC (pc' := 112) 1 (87 + 2 * a) hM1 eX7_plan_111 rfl (by decide) (hv7 _) (hx7 _) (fun h6 hM4 hs5 => ?_)
          have hT7 := hs2.tr hs5
          refine aw_aload_n (pc' := 113) eX7_plan_112 rfl rfl trivial ?_
          refine aw_Mref (pc' := 116) (kf := 0) 1 hM4 eX7_plan_113 rfl (by decide) rfl q789 ?_
          refine aw_bipush (pc' := 118) (v := 85) eX7_plan_116 rfl (by decide) ?_
          refine aw_dup2 (pc' := 119) eX7_plan_118 rfl rfl rfl ?_
          refine aw_MaldC (pc' := 120) 1 85 hM4 eX7_plan_119 rfl (by decide) (by unfold vp_in; decide) (by decide) ?_
          refine aw_iconst (pc' := 121) (v := 1) eX7_plan_120 rfl (by decide) ?_
          refine aw_iadd (pc' := 122) eX7_plan_121 rfl ?_
          refine aw_MastC (pc' := 123) 1 85 hM4 eX7_plan_122 rfl (by decide) (by unfold vp_in; decide) (by decide) (fun h10 hM8 hs9 => ?_)
          have hT11 := hT7.tr hs9
          refine aw_aload_n (pc' := 124) eX7_plan_123 rfl rfl trivial ?_
          refine aw_Mref (pc' := 127) (kf := 0) 1 hM8 eX7_plan_124 rfl (by decide) rfl q789 ?_
          refine aw_bipush (pc' := 129) (v := 85) eX7_plan_127 rfl (by decide) ?_
          refine aw_MaldC (pc' := 130) 1 85 hM8 eX7_plan_129 rfl (by decide) (by unfold vp_in; decide) (by decide) ?_
          refine aw_ret (v := some (.int _)) eX7_plan_130 ⟨rfl, rfl⟩ (by omega) (by omega) rfl ?_
          try simp only [zb_eq0, Bool.not_eq_false, Bool.not_eq_true, decide_eq_true_eq, decide_eq_false_iff_not, Decidable.not_not, hm.1] at c_16
          have eok : sPlanOk m t p = true := by first | (simp [sPlanOk, c_16]; done) | (exfalso; simp_all; done) | (exfalso; have z := c_21.symm.trans c_39; exact absurd z (by decide)) | (exfalso; have z := c_26.symm.trans c_39; exact absurd z (by decide))
          rw [sPlan, if_neg c_2, if_pos eok, if_neg c_70]
          have hM9 := hM8
          simp only [mup_mg, mg_mg, mg_1] at hM9
          exact ⟨by simp [mup1], hM9, hT11⟩
        · refine aw_bipush (pc' := 75) (v := -4) eX7_plan_73 rfl (by decide) ?_
          refine aw_ret (v := some (.int _)) eX7_plan_75 ⟨rfl, rfl⟩ (by omega) (by omega) rfl ?_
          try simp only [zb_eq0, Bool.not_eq_false, Bool.not_eq_true, decide_eq_true_eq, decide_eq_false_iff_not, Decidable.not_not, hm.1] at c_16
          have eok : sPlanOk m t p = true := by first | (simp [sPlanOk, c_16]; done) | (exfalso; simp_all; done) | (exfalso; have z := c_21.symm.trans c_39; exact absurd z (by decide)) | (exfalso; have z := c_26.symm.trans c_39; exact absurd z (by decide))
          rw [hs] at c_70
          rw [sPlan, if_neg c_2, if_pos eok, if_pos c_70]
          exact ⟨rfl, by rw [mg_id]; exact hM, Same.rf⟩
      · exact absurd c_56 (by decide)
    · refine aw_iload_n (pc' := 20) eX7_plan_19 rfl rfl ?_
      refine aw_iconst (pc' := 21) (v := 1) eX7_plan_20 rfl (by decide) ?_
      refine aw_icmp_eq (pc' := 24) (tgt := 29) eX7_plan_21 rfl (by decide) (fun c_21 => ?_) (fun c_21 => ?_)
      · refine aw_aload_n (pc' := 30) eX7_plan_29 rfl rfl trivial ?_
        refine aw_iload_n (pc' := 31) eX7_plan_30 rfl rfl ?_
        refine aw_callv (pc' := 34) (nn := 1) (c_X7_isOne (d := d - 1) hM _ (by omega)) eX7_plan_31 rfl ⟨q897, q900, q62⟩ q899 q21 ⟨rfl, by decide +kernel, by decide +kernel, by decide +kernel⟩ rfl (by rw [hM.2.1]; exact ⟨rfl, rfl⟩) rfl ⟨by omega, by decide⟩ ⟨by omega, by omega⟩ rfl (Nat.le_of_ble_eq_true rfl) (fun v12 h13 hq14 => ?_)
        obtain ⟨rfl, rfl⟩ := hq14
        dsimp only [Option.toList, List.cons_append, List.nil_append]
        refine aw_if_ne (pc' := 37) (tgt := 49) eX7_plan_34 rfl (by decide) (fun c_34 => ?_) (fun c_34 => ?_)
        · refine aw_iconst (pc' := 50) (v := 1) eX7_plan_49 rfl (by decide) ?_
          refine aw_goto eX7_plan_50 (by decide) (tgt := 54) ?_
          refine aw_istore_n (pc' := 55) eX7_plan_54 rfl (by decide) ?_
          dsimp only [zst, zst2, zcut]
          refine aw_iload_n (pc' := 56) eX7_plan_55 rfl rfl ?_
          refine aw_if_ne (pc' := 59) (tgt := 61) eX7_plan_56 rfl (by decide) (fun c_56 => ?_) (fun c_56 => ?_)
          · refine aw_aload_n (pc' := 62) eX7_plan_61 rfl rfl trivial ?_
            refine aw_Mref (pc' := 65) (kf := 0) 1 hM eX7_plan_62 rfl (by decide) rfl q789 ?_
            refine aw_bipush (pc' := 67) (v := 85) eX7_plan_65 rfl (by decide) ?_
            refine aw_MaldC (pc' := 68) 1 85 hM eX7_plan_67 rfl (by decide) (by unfold vp_in; decide) (by decide) ?_
            refine aw_bipush (pc' := 70) (v := 10) eX7_plan_68 rfl (by decide) ?_
            refine aw_icmp_ne (pc' := 73) (tgt := 76) eX7_plan_70 rfl (by decide) (fun c_70 => ?_) (fun c_70 => ?_)
            · rw [hs] at c_70
              have ha5 : a < 10 := by
                rcases Nat.lt_or_ge a 10 with z | z
                · exact z
                · exact absurd (by rw [show a = 10 by omega]; rfl) c_70
              have hx6 : (86 + 2 * U.1 1 85).toNatClampNeg = 86 + 2 * a := by rw [hs]; exact (ix3 (c := 86) (b := 2) (by omega)).1
              have hv6 : vp_in (86 + 2 * U.1 1 85) 123 := by rw [hs]; exact (ix3 (c := 86) (b := 2) (by omega)).2
              have e7 : ∀ x : Int32, (mup U 1 (86 + 2 * a) x).1 1 85 = nI a := fun x => by rw [mup1, upd_ne (by omega)]; exact hs
              have hx7 : ∀ x : Int32, (87 + 2 * (mup U 1 (86 + 2 * a) x).1 1 85).toNatClampNeg = 87 + 2 * a := fun x => by rw [e7]; exact (ix3 (c := 87) (b := 2) (by omega)).1
              have hv7 : ∀ x : Int32, vp_in (87 + 2 * (mup U 1 (86 + 2 * a) x).1 1 85) 123 := fun x => by rw [e7]; exact (ix3 (c := 87) (b := 2) (by omega)).2
              refine aw_aload_n (pc' := 77) eX7_plan_76 rfl rfl trivial ?_
              refine aw_Mref (pc' := 80) (kf := 0) 1 hM eX7_plan_77 rfl (by decide) rfl q789 ?_
              refine aw_bipush (pc' := 82) (v := 86) eX7_plan_80 rfl (by decide) ?_
              refine aw_iconst (pc' := 83) (v := 2) eX7_plan_82 rfl (by decide) ?_
              refine aw_aload_n (pc' := 84) eX7_plan_83 rfl rfl trivial ?_
              refine aw_Mref (pc' := 87) (kf := 0) 1 hM eX7_plan_84 rfl (by decide) rfl q789 ?_
              refine aw_bipush (pc' := 89) (v := 85) eX7_plan_87 rfl (by decide) ?_
              refine aw_MaldC (pc' := 90) 1 85 hM eX7_plan_89 rfl (by decide) (by unfold vp_in; decide) (by decide) ?_
              refine aw_imul (pc' := 91) eX7_plan_90 rfl ?_
              refine aw_iadd (pc' := 92) eX7_plan_91 rfl ?_
              refine aw_iload_n (pc' := 93) eX7_plan_92 rfl rfl ?_
              refine aw_MastC (pc' := 94) 1 (86 + 2 * a) hM eX7_plan_93 rfl (by decide) hv6 hx6 (fun h17 hM15 hs16 => ?_)
              refine aw_aload_n (pc' := 95) eX7_plan_94 rfl rfl trivial ?_
              refine aw_Mref (pc' := 98) (kf := 0) 1 hM15 eX7_plan_95 rfl (by decide) rfl q789 ?_
              refine aw_bipush (pc' := 100) (v := 87) eX7_plan_98 rfl (by decide) ?_
              refine aw_iconst (pc' := 101) (v := 2) eX7_plan_100 rfl (by decide) ?_
              refine aw_aload_n (pc' := 102) eX7_plan_101 rfl rfl trivial ?_
              refine aw_Mref (pc' := 105) (kf := 0) 1 hM15 eX7_plan_102 rfl (by decide) rfl q789 ?_
              refine aw_bipush (pc' := 107) (v := 85) eX7_plan_105 rfl (by decide) ?_
              refine aw_MaldC (pc' := 108) 1 85 hM15 eX7_plan_107 rfl (by decide) (by unfold vp_in; decide) (by decide) ?_
              refine aw_imul (pc' := 109) eX7_plan_108 rfl ?_
              refine aw_iadd (pc' := 110) eX7_plan_109 rfl ?_
              refine aw_iload_n (pc' := 111) eX7_plan_110 rfl rfl ?_
              refine aw_MastC (pc' := 112) 1 (87 + 2 * a) hM15 eX7_plan_111 rfl (by decide) (hv7 _) (hx7 _) (fun h20 hM18 hs19 => ?_)
              have hT21 := hs16.tr hs19
              refine aw_aload_n (pc' := 113) eX7_plan_112 rfl rfl trivial ?_
              refine aw_Mref (pc' := 116) (kf := 0) 1 hM18 eX7_plan_113 rfl (by decide) rfl q789 ?_
              refine aw_bipush (pc' := 118) (v := 85) eX7_plan_116 rfl (by decide) ?_
              refine aw_dup2 (pc' := 119) eX7_plan_118 rfl rfl rfl ?_
              refine aw_MaldC (pc' := 120) 1 85 hM18 eX7_plan_119 rfl (by decide) (by unfold vp_in; decide) (by decide) ?_
              refine aw_iconst (pc' := 121) (v := 1) eX7_plan_120 rfl (by decide) ?_
              refine aw_iadd (pc' := 122) eX7_plan_121 rfl ?_
              refine aw_MastC (pc' := 123) 1 85 hM18 eX7_plan_122 rfl (by decide) (by unfold vp_in; decide) (by decide) (fun h24 hM22 hs23 => ?_)
              have hT25 := hT21.tr hs23
              refine aw_aload_n (pc' := 124) eX7_plan_123 rfl rfl trivial ?_
              refine aw_Mref (pc' := 127) (kf := 0) 1 hM22 eX7_plan_124 rfl (by decide) rfl q789 ?_
              refine aw_bipush (pc' := 129) (v := 85) eX7_plan_127 rfl (by decide) ?_
              refine aw_MaldC (pc' := 130) 1 85 hM22 eX7_plan_129 rfl (by decide) (by unfold vp_in; decide) (by decide) ?_
              refine aw_ret (v := some (.int _)) eX7_plan_130 ⟨rfl, rfl⟩ (by omega) (by omega) rfl ?_
              try simp only [zb_eq0, Bool.not_eq_false, Bool.not_eq_true, decide_eq_true_eq, decide_eq_false_iff_not, Decidable.not_not, hm.1] at c_16 c_21 c_34
              have eok : sPlanOk m t p = true := by first | (simp [sPlanOk, c_16, c_21, c_34]; done) | (exfalso; simp_all; done) | (exfalso; have z := c_21.symm.trans c_39; exact absurd z (by decide)) | (exfalso; have z := c_26.symm.trans c_39; exact absurd z (by decide))
              rw [sPlan, if_neg c_2, if_pos eok, if_neg c_70]
              have hM9 := hM22
              simp only [mup_mg, mg_mg, mg_1] at hM9
              exact ⟨by simp [mup1], hM9, hT25⟩
            · refine aw_bipush (pc' := 75) (v := -4) eX7_plan_73 rfl (by decide) ?_
              refine aw_ret (v := some (.int _)) eX7_plan_75 ⟨rfl, rfl⟩ (by omega) (by omega) rfl ?_
              try simp only [zb_eq0, Bool.not_eq_false, Bool.not_eq_true, decide_eq_true_eq, decide_eq_false_iff_not, Decidable.not_not, hm.1] at c_16 c_21 c_34
              have eok : sPlanOk m t p = true := by first | (simp [sPlanOk, c_16, c_21, c_34]; done) | (exfalso; simp_all; done) | (exfalso; have z := c_21.symm.trans c_39; exact absurd z (by decide)) | (exfalso; have z := c_26.symm.trans c_39; exact absurd z (by decide))
              rw [hs] at c_70
              rw [sPlan, if_neg c_2, if_pos eok, if_pos c_70]
              exact ⟨rfl, by rw [mg_id]; exact hM, Same.rf⟩
          · exact absurd c_56 (by decide)
        · refine aw_iload_n (pc' := 38) eX7_plan_37 rfl rfl ?_
          refine aw_iconst (pc' := 39) (v := 3) eX7_plan_38 rfl (by decide) ?_
          refine aw_icmp_ne (pc' := 42) (tgt := 53) eX7_plan_39 rfl (by decide) (fun c_39 => ?_) (fun c_39 => ?_)
          · refine aw_iconst (pc' := 54) (v := 0) eX7_plan_53 rfl (by decide) ?_
            refine aw_istore_n (pc' := 55) eX7_plan_54 rfl (by decide) ?_
            dsimp only [zst, zst2, zcut]
            refine aw_iload_n (pc' := 56) eX7_plan_55 rfl rfl ?_
            refine aw_if_ne (pc' := 59) (tgt := 61) eX7_plan_56 rfl (by decide) (fun c_56 => ?_) (fun c_56 => ?_)
            · exact absurd c_56 (by decide)
            · refine aw_iconst (pc' := 60) (v := -1) eX7_plan_59 rfl (by decide) ?_
              refine aw_ret (v := some (.int _)) eX7_plan_60 ⟨rfl, rfl⟩ (by omega) (by omega) rfl ?_
              try simp only [zb_eq0, Bool.not_eq_false, Bool.not_eq_true, decide_eq_true_eq, decide_eq_false_iff_not, Decidable.not_not, hm.1] at c_16 c_21 c_34 c_39
              have eok : sPlanOk m t p = false := by first | (simp [sPlanOk, c_16, c_21, c_34, c_39]; done) | (exfalso; simp_all; done) | (exfalso; have z := c_21.symm.trans c_39; exact absurd z (by decide)) | (exfalso; have z := c_26.symm.trans c_39; exact absurd z (by decide))
              rw [sPlan, if_neg c_2, if_neg (by rw [eok]; decide)]
              exact ⟨rfl, by rw [mg_id]; exact hM, Same.rf⟩
          · refine aw_iload_n (pc' := 43) eX7_plan_42 rfl rfl ?_
            refine aw_calls (pc' := 46) (nn := 1) (c_X7_isPlace (d := d - 1) _ (by omega)) eX7_plan_43 rfl ⟨q1017, q1019, q62⟩ q1018 ⟨by decide +kernel, by decide +kernel, by decide +kernel⟩ rfl ⟨by omega, by decide⟩ ⟨by omega, by omega⟩ rfl (Nat.le_of_ble_eq_true rfl) (fun v26 h27 hq28 => ?_)
            obtain ⟨rfl, rfl⟩ := hq28
            dsimp only [Option.toList, List.cons_append, List.nil_append]
            refine aw_if_eq (pc' := 49) (tgt := 53) eX7_plan_46 rfl (by decide) (fun c_46 => ?_) (fun c_46 => ?_)
            · refine aw_iconst (pc' := 54) (v := 0) eX7_plan_53 rfl (by decide) ?_
              refine aw_istore_n (pc' := 55) eX7_plan_54 rfl (by decide) ?_
              dsimp only [zst, zst2, zcut]
              refine aw_iload_n (pc' := 56) eX7_plan_55 rfl rfl ?_
              refine aw_if_ne (pc' := 59) (tgt := 61) eX7_plan_56 rfl (by decide) (fun c_56 => ?_) (fun c_56 => ?_)
              · exact absurd c_56 (by decide)
              · refine aw_iconst (pc' := 60) (v := -1) eX7_plan_59 rfl (by decide) ?_
                refine aw_ret (v := some (.int _)) eX7_plan_60 ⟨rfl, rfl⟩ (by omega) (by omega) rfl ?_
                try simp only [zb_eq0, Bool.not_eq_false, Bool.not_eq_true, decide_eq_true_eq, decide_eq_false_iff_not, Decidable.not_not, hm.1] at c_16 c_21 c_34 c_39 c_46
                have eok : sPlanOk m t p = false := by first | (simp [sPlanOk, c_16, c_21, c_34, c_39, c_46]; done) | (exfalso; simp_all; done) | (exfalso; have z := c_21.symm.trans c_39; exact absurd z (by decide)) | (exfalso; have z := c_26.symm.trans c_39; exact absurd z (by decide))
                rw [sPlan, if_neg c_2, if_neg (by rw [eok]; decide)]
                exact ⟨rfl, by rw [mg_id]; exact hM, Same.rf⟩
            · refine aw_iconst (pc' := 50) (v := 1) eX7_plan_49 rfl (by decide) ?_
              refine aw_goto eX7_plan_50 (by decide) (tgt := 54) ?_
              refine aw_istore_n (pc' := 55) eX7_plan_54 rfl (by decide) ?_
              dsimp only [zst, zst2, zcut]
              refine aw_iload_n (pc' := 56) eX7_plan_55 rfl rfl ?_
              refine aw_if_ne (pc' := 59) (tgt := 61) eX7_plan_56 rfl (by decide) (fun c_56 => ?_) (fun c_56 => ?_)
              · refine aw_aload_n (pc' := 62) eX7_plan_61 rfl rfl trivial ?_
                refine aw_Mref (pc' := 65) (kf := 0) 1 hM eX7_plan_62 rfl (by decide) rfl q789 ?_
                refine aw_bipush (pc' := 67) (v := 85) eX7_plan_65 rfl (by decide) ?_
                refine aw_MaldC (pc' := 68) 1 85 hM eX7_plan_67 rfl (by decide) (by unfold vp_in; decide) (by decide) ?_
                refine aw_bipush (pc' := 70) (v := 10) eX7_plan_68 rfl (by decide) ?_
                refine aw_icmp_ne (pc' := 73) (tgt := 76) eX7_plan_70 rfl (by decide) (fun c_70 => ?_) (fun c_70 => ?_)
                · rw [hs] at c_70
                  have ha5 : a < 10 := by
                    rcases Nat.lt_or_ge a 10 with z | z
                    · exact z
                    · exact absurd (by rw [show a = 10 by omega]; rfl) c_70
                  have hx6 : (86 + 2 * U.1 1 85).toNatClampNeg = 86 + 2 * a := by rw [hs]; exact (ix3 (c := 86) (b := 2) (by omega)).1
                  have hv6 : vp_in (86 + 2 * U.1 1 85) 123 := by rw [hs]; exact (ix3 (c := 86) (b := 2) (by omega)).2
                  have e7 : ∀ x : Int32, (mup U 1 (86 + 2 * a) x).1 1 85 = nI a := fun x => by rw [mup1, upd_ne (by omega)]; exact hs
                  have hx7 : ∀ x : Int32, (87 + 2 * (mup U 1 (86 + 2 * a) x).1 1 85).toNatClampNeg = 87 + 2 * a := fun x => by rw [e7]; exact (ix3 (c := 87) (b := 2) (by omega)).1
                  have hv7 : ∀ x : Int32, vp_in (87 + 2 * (mup U 1 (86 + 2 * a) x).1 1 85) 123 := fun x => by rw [e7]; exact (ix3 (c := 87) (b := 2) (by omega)).2
                  refine aw_aload_n (pc' := 77) eX7_plan_76 rfl rfl trivial ?_
                  refine aw_Mref (pc' := 80) (kf := 0) 1 hM eX7_plan_77 rfl (by decide) rfl q789 ?_
                  refine aw_bipush (pc' := 82) (v := 86) eX7_plan_80 rfl (by decide) ?_
                  refine aw_iconst (pc' := 83) (v := 2) eX7_plan_82 rfl (by decide) ?_
                  refine aw_aload_n (pc' := 84) eX7_plan_83 rfl rfl trivial ?_
                  refine aw_Mref (pc' := 87) (kf := 0) 1 hM eX7_plan_84 rfl (by decide) rfl q789 ?_
                  refine aw_bipush (pc' := 89) (v := 85) eX7_plan_87 rfl (by decide) ?_
                  refine aw_MaldC (pc' := 90) 1 85 hM eX7_plan_89 rfl (by decide) (by unfold vp_in; decide) (by decide) ?_
                  refine aw_imul (pc' := 91) eX7_plan_90 rfl ?_
                  refine aw_iadd (pc' := 92) eX7_plan_91 rfl ?_
                  refine aw_iload_n (pc' := 93) eX7_plan_92 rfl rfl ?_
                  refine aw_MastC (pc' := 94) 1 (86 + 2 * a) hM eX7_plan_93 rfl (by decide) hv6 hx6 (fun h31 hM29 hs30 => ?_)
                  refine aw_aload_n (pc' := 95) eX7_plan_94 rfl rfl trivial ?_
                  refine aw_Mref (pc' := 98) (kf := 0) 1 hM29 eX7_plan_95 rfl (by decide) rfl q789 ?_
                  refine aw_bipush (pc' := 100) (v := 87) eX7_plan_98 rfl (by decide) ?_
                  refine aw_iconst (pc' := 101) (v := 2) eX7_plan_100 rfl (by decide) ?_
                  refine aw_aload_n (pc' := 102) eX7_plan_101 rfl rfl trivial ?_
                  refine aw_Mref (pc' := 105) (kf := 0) 1 hM29 eX7_plan_102 rfl (by decide) rfl q789 ?_
                  refine aw_bipush (pc' := 107) (v := 85) eX7_plan_105 rfl (by decide) ?_
                  refine aw_MaldC (pc' := 108) 1 85 hM29 eX7_plan_107 rfl (by decide) (by unfold vp_in; decide) (by decide) ?_
                  refine aw_imul (pc' := 109) eX7_plan_108 rfl ?_
                  refine aw_iadd (pc' := 110) eX7_plan_109 rfl ?_
                  refine aw_iload_n (pc' := 111) eX7_plan_110 rfl rfl ?_
                  refine aw_MastC (pc' := 112) 1 (87 + 2 * a) hM29 eX7_plan_111 rfl (by decide) (hv7 _) (hx7 _) (fun h34 hM32 hs33 => ?_)
                  have hT35 := hs30.tr hs33
                  refine aw_aload_n (pc' := 113) eX7_plan_112 rfl rfl trivial ?_
                  refine aw_Mref (pc' := 116) (kf := 0) 1 hM32 eX7_plan_113 rfl (by decide) rfl q789 ?_
                  refine aw_bipush (pc' := 118) (v := 85) eX7_plan_116 rfl (by decide) ?_
                  refine aw_dup2 (pc' := 119) eX7_plan_118 rfl rfl rfl ?_
                  refine aw_MaldC (pc' := 120) 1 85 hM32 eX7_plan_119 rfl (by decide) (by unfold vp_in; decide) (by decide) ?_
                  refine aw_iconst (pc' := 121) (v := 1) eX7_plan_120 rfl (by decide) ?_
                  refine aw_iadd (pc' := 122) eX7_plan_121 rfl ?_
                  refine aw_MastC (pc' := 123) 1 85 hM32 eX7_plan_122 rfl (by decide) (by unfold vp_in; decide) (by decide) (fun h38 hM36 hs37 => ?_)
                  have hT39 := hT35.tr hs37
                  refine aw_aload_n (pc' := 124) eX7_plan_123 rfl rfl trivial ?_
                  refine aw_Mref (pc' := 127) (kf := 0) 1 hM36 eX7_plan_124 rfl (by decide) rfl q789 ?_
                  refine aw_bipush (pc' := 129) (v := 85) eX7_plan_127 rfl (by decide) ?_
                  refine aw_MaldC (pc' := 130) 1 85 hM36 eX7_plan_129 rfl (by decide) (by unfold vp_in; decide) (by decide) ?_
                  refine aw_ret (v := some (.int _)) eX7_plan_130 ⟨rfl, rfl⟩ (by omega) (by omega) rfl ?_
                  try simp only [zb_eq0, Bool.not_eq_false, Bool.not_eq_true, decide_eq_true_eq, decide_eq_false_iff_not, Decidable.not_not, hm.1] at c_16 c_21 c_34 c_39 c_46
                  have eok : sPlanOk m t p = true := by first | (simp [sPlanOk, c_16, c_21, c_34, c_39, c_46]; done) | (exfalso; simp_all; done) | (exfalso; have z := c_21.symm.trans c_39; exact absurd z (by decide)) | (exfalso; have z := c_26.symm.trans c_39; exact absurd z (by decide))
                  rw [sPlan, if_neg c_2, if_pos eok, if_neg c_70]
                  have hM9 := hM36
                  simp only [mup_mg, mg_mg, mg_1] at hM9
                  exact ⟨by simp [mup1], hM9, hT39⟩
                · refine aw_bipush (pc' := 75) (v := -4) eX7_plan_73 rfl (by decide) ?_
                  refine aw_ret (v := some (.int _)) eX7_plan_75 ⟨rfl, rfl⟩ (by omega) (by omega) rfl ?_
                  try simp only [zb_eq0, Bool.not_eq_false, Bool.not_eq_true, decide_eq_true_eq, decide_eq_false_iff_not, Decidable.not_not, hm.1] at c_16 c_21 c_34 c_39 c_46
                  have eok : sPlanOk m t p = true := by first | (simp [sPlanOk, c_16, c_21, c_34, c_39, c_46]; done) | (exfalso; simp_all; done) | (exfalso; have z := c_21.symm.trans c_39; exact absurd z (by decide)) | (exfalso; have z := c_26.symm.trans c_39; exact absurd z (by decide))
                  rw [hs] at c_70
                  rw [sPlan, if_neg c_2, if_pos eok, if_pos c_70]
                  exact ⟨rfl, by rw [mg_id]; exact hM, Same.rf⟩
              · exact absurd c_56 (by decide)
      · refine aw_iload_n (pc' := 25) eX7_plan_24 rfl rfl ?_
        refine aw_iconst (pc' := 26) (v := 2) eX7_plan_25 rfl (by decide) ?_
        refine aw_icmp_ne (pc' := 29) (tgt := 37) eX7_plan_26 rfl (by decide) (fun c_26 => ?_) (fun c_26 => ?_)
        · refine aw_iload_n (pc' := 38) eX7_plan_37 rfl rfl ?_
          refine aw_iconst (pc' := 39) (v := 3) eX7_plan_38 rfl (by decide) ?_
          refine aw_icmp_ne (pc' := 42) (tgt := 53) eX7_plan_39 rfl (by decide) (fun c_39 => ?_) (fun c_39 => ?_)
          · refine aw_iconst (pc' := 54) (v := 0) eX7_plan_53 rfl (by decide) ?_
            refine aw_istore_n (pc' := 55) eX7_plan_54 rfl (by decide) ?_
            dsimp only [zst, zst2, zcut]
            refine aw_iload_n (pc' := 56) eX7_plan_55 rfl rfl ?_
            refine aw_if_ne (pc' := 59) (tgt := 61) eX7_plan_56 rfl (by decide) (fun c_56 => ?_) (fun c_56 => ?_)
            · exact absurd c_56 (by decide)
            · refine aw_iconst (pc' := 60) (v := -1) eX7_plan_59 rfl (by decide) ?_
              refine aw_ret (v := some (.int _)) eX7_plan_60 ⟨rfl, rfl⟩ (by omega) (by omega) rfl ?_
              try simp only [zb_eq0, Bool.not_eq_false, Bool.not_eq_true, decide_eq_true_eq, decide_eq_false_iff_not, Decidable.not_not, hm.1] at c_16 c_21 c_26 c_39
              have eok : sPlanOk m t p = false := by first | (simp [sPlanOk, c_16, c_21, c_26, c_39]; done) | (exfalso; simp_all; done) | (exfalso; have z := c_21.symm.trans c_39; exact absurd z (by decide)) | (exfalso; have z := c_26.symm.trans c_39; exact absurd z (by decide))
              rw [sPlan, if_neg c_2, if_neg (by rw [eok]; decide)]
              exact ⟨rfl, by rw [mg_id]; exact hM, Same.rf⟩
          · refine aw_iload_n (pc' := 43) eX7_plan_42 rfl rfl ?_
            refine aw_calls (pc' := 46) (nn := 1) (c_X7_isPlace (d := d - 1) _ (by omega)) eX7_plan_43 rfl ⟨q1017, q1019, q62⟩ q1018 ⟨by decide +kernel, by decide +kernel, by decide +kernel⟩ rfl ⟨by omega, by decide⟩ ⟨by omega, by omega⟩ rfl (Nat.le_of_ble_eq_true rfl) (fun v40 h41 hq42 => ?_)
            obtain ⟨rfl, rfl⟩ := hq42
            dsimp only [Option.toList, List.cons_append, List.nil_append]
            refine aw_if_eq (pc' := 49) (tgt := 53) eX7_plan_46 rfl (by decide) (fun c_46 => ?_) (fun c_46 => ?_)
            · refine aw_iconst (pc' := 54) (v := 0) eX7_plan_53 rfl (by decide) ?_
              refine aw_istore_n (pc' := 55) eX7_plan_54 rfl (by decide) ?_
              dsimp only [zst, zst2, zcut]
              refine aw_iload_n (pc' := 56) eX7_plan_55 rfl rfl ?_
              refine aw_if_ne (pc' := 59) (tgt := 61) eX7_plan_56 rfl (by decide) (fun c_56 => ?_) (fun c_56 => ?_)
              · exact absurd c_56 (by decide)
              · refine aw_iconst (pc' := 60) (v := -1) eX7_plan_59 rfl (by decide) ?_
                refine aw_ret (v := some (.int _)) eX7_plan_60 ⟨rfl, rfl⟩ (by omega) (by omega) rfl ?_
                try simp only [zb_eq0, Bool.not_eq_false, Bool.not_eq_true, decide_eq_true_eq, decide_eq_false_iff_not, Decidable.not_not, hm.1] at c_16 c_21 c_26 c_39 c_46
                have eok : sPlanOk m t p = false := by first | (simp [sPlanOk, c_16, c_21, c_26, c_39, c_46]; done) | (exfalso; simp_all; done) | (exfalso; have z := c_21.symm.trans c_39; exact absurd z (by decide)) | (exfalso; have z := c_26.symm.trans c_39; exact absurd z (by decide))
                rw [sPlan, if_neg c_2, if_neg (by rw [eok]; decide)]
                exact ⟨rfl, by rw [mg_id]; exact hM, Same.rf⟩
            · refine aw_iconst (pc' := 50) (v := 1) eX7_plan_49 rfl (by decide) ?_
              refine aw_goto eX7_plan_50 (by decide) (tgt := 54) ?_
              refine aw_istore_n (pc' := 55) eX7_plan_54 rfl (by decide) ?_
              dsimp only [zst, zst2, zcut]
              refine aw_iload_n (pc' := 56) eX7_plan_55 rfl rfl ?_
              refine aw_if_ne (pc' := 59) (tgt := 61) eX7_plan_56 rfl (by decide) (fun c_56 => ?_) (fun c_56 => ?_)
              · refine aw_aload_n (pc' := 62) eX7_plan_61 rfl rfl trivial ?_
                refine aw_Mref (pc' := 65) (kf := 0) 1 hM eX7_plan_62 rfl (by decide) rfl q789 ?_
                refine aw_bipush (pc' := 67) (v := 85) eX7_plan_65 rfl (by decide) ?_
                refine aw_MaldC (pc' := 68) 1 85 hM eX7_plan_67 rfl (by decide) (by unfold vp_in; decide) (by decide) ?_
                refine aw_bipush (pc' := 70) (v := 10) eX7_plan_68 rfl (by decide) ?_
                refine aw_icmp_ne (pc' := 73) (tgt := 76) eX7_plan_70 rfl (by decide) (fun c_70 => ?_) (fun c_70 => ?_)
                · rw [hs] at c_70
                  have ha5 : a < 10 := by
                    rcases Nat.lt_or_ge a 10 with z | z
                    · exact z
                    · exact absurd (by rw [show a = 10 by omega]; rfl) c_70
                  have hx6 : (86 + 2 * U.1 1 85).toNatClampNeg = 86 + 2 * a := by rw [hs]; exact (ix3 (c := 86) (b := 2) (by omega)).1
                  have hv6 : vp_in (86 + 2 * U.1 1 85) 123 := by rw [hs]; exact (ix3 (c := 86) (b := 2) (by omega)).2
                  have e7 : ∀ x : Int32, (mup U 1 (86 + 2 * a) x).1 1 85 = nI a := fun x => by rw [mup1, upd_ne (by omega)]; exact hs
                  have hx7 : ∀ x : Int32, (87 + 2 * (mup U 1 (86 + 2 * a) x).1 1 85).toNatClampNeg = 87 + 2 * a := fun x => by rw [e7]; exact (ix3 (c := 87) (b := 2) (by omega)).1
                  have hv7 : ∀ x : Int32, vp_in (87 + 2 * (mup U 1 (86 + 2 * a) x).1 1 85) 123 := fun x => by rw [e7]; exact (ix3 (c := 87) (b := 2) (by omega)).2
                  refine aw_aload_n (pc' := 77) eX7_plan_76 rfl rfl trivial ?_
                  refine aw_Mref (pc' := 80) (kf := 0) 1 hM eX7_plan_77 rfl (by decide) rfl q789 ?_
                  refine aw_bipush (pc' := 82) (v := 86) eX7_plan_80 rfl (by decide) ?_
                  refine aw_iconst (pc' := 83) (v := 2) eX7_plan_82 rfl (by decide) ?_
                  refine aw_aload_n (pc' := 84) eX7_plan_83 rfl rfl trivial ?_
                  refine aw_Mref (pc' := 87) (kf := 0) 1 hM eX7_plan_84 rfl (by decide) rfl q789 ?_
                  refine aw_bipush (pc' := 89) (v := 85) eX7_plan_87 rfl (by decide) ?_
                  refine aw_MaldC (pc' := 90) 1 85 hM eX7_plan_89 rfl (by decide) (by unfold vp_in; decide) (by decide) ?_
                  refine aw_imul (pc' := 91) eX7_plan_90 rfl ?_
                  refine aw_iadd (pc' := 92) eX7_plan_91 rfl ?_
                  refine aw_iload_n (pc' := 93) eX7_plan_92 rfl rfl ?_
                  refine aw_MastC (pc' := 94) 1 (86 + 2 * a) hM eX7_plan_93 rfl (by decide) hv6 hx6 (fun h45 hM43 hs44 => ?_)
                  refine aw_aload_n (pc' := 95) eX7_plan_94 rfl rfl trivial ?_
                  refine aw_Mref (pc' := 98) (kf := 0) 1 hM43 eX7_plan_95 rfl (by decide) rfl q789 ?_
                  refine aw_bipush (pc' := 100) (v := 87) eX7_plan_98 rfl (by decide) ?_
                  refine aw_iconst (pc' := 101) (v := 2) eX7_plan_100 rfl (by decide) ?_
                  refine aw_aload_n (pc' := 102) eX7_plan_101 rfl rfl trivial ?_
                  refine aw_Mref (pc' := 105) (kf := 0) 1 hM43 eX7_plan_102 rfl (by decide) rfl q789 ?_
                  refine aw_bipush (pc' := 107) (v := 85) eX7_plan_105 rfl (by decide) ?_
                  refine aw_MaldC (pc' := 108) 1 85 hM43 eX7_plan_107 rfl (by decide) (by unfold vp_in; decide) (by decide) ?_
                  refine aw_imul (pc' := 109) eX7_plan_108 rfl ?_
                  refine aw_iadd (pc' := 110) eX7_plan_109 rfl ?_
                  refine aw_iload_n (pc' := 111) eX7_plan_110 rfl rfl ?_
                  refine aw_MastC (pc' := 112) 1 (87 + 2 * a) hM43 eX7_plan_111 rfl (by decide) (hv7 _) (hx7 _) (fun h48 hM46 hs47 => ?_)
                  have hT49 := hs44.tr hs47
                  refine aw_aload_n (pc' := 113) eX7_plan_112 rfl rfl trivial ?_
                  refine aw_Mref (pc' := 116) (kf := 0) 1 hM46 eX7_plan_113 rfl (by decide) rfl q789 ?_
                  refine aw_bipush (pc' := 118) (v := 85) eX7_plan_116 rfl (by decide) ?_
                  refine aw_dup2 (pc' := 119) eX7_plan_118 rfl rfl rfl ?_
                  refine aw_MaldC (pc' := 120) 1 85 hM46 eX7_plan_119 rfl (by decide) (by unfold vp_in; decide) (by decide) ?_
                  refine aw_iconst (pc' := 121) (v := 1) eX7_plan_120 rfl (by decide) ?_
                  refine aw_iadd (pc' := 122) eX7_plan_121 rfl ?_
                  refine aw_MastC (pc' := 123) 1 85 hM46 eX7_plan_122 rfl (by decide) (by unfold vp_in; decide) (by decide) (fun h52 hM50 hs51 => ?_)
                  have hT53 := hT49.tr hs51
                  refine aw_aload_n (pc' := 124) eX7_plan_123 rfl rfl trivial ?_
                  refine aw_Mref (pc' := 127) (kf := 0) 1 hM50 eX7_plan_124 rfl (by decide) rfl q789 ?_
                  refine aw_bipush (pc' := 129) (v := 85) eX7_plan_127 rfl (by decide) ?_
                  refine aw_MaldC (pc' := 130) 1 85 hM50 eX7_plan_129 rfl (by decide) (by unfold vp_in; decide) (by decide) ?_
                  refine aw_ret (v := some (.int _)) eX7_plan_130 ⟨rfl, rfl⟩ (by omega) (by omega) rfl ?_
                  try simp only [zb_eq0, Bool.not_eq_false, Bool.not_eq_true, decide_eq_true_eq, decide_eq_false_iff_not, Decidable.not_not, hm.1] at c_16 c_21 c_26 c_39 c_46
                  have eok : sPlanOk m t p = true := by first | (simp [sPlanOk, c_16, c_21, c_26, c_39, c_46]; done) | (exfalso; simp_all; done) | (exfalso; have z := c_21.symm.trans c_39; exact absurd z (by decide)) | (exfalso; have z := c_26.symm.trans c_39; exact absurd z (by decide))
                  rw [sPlan, if_neg c_2, if_pos eok, if_neg c_70]
                  have hM9 := hM50
                  simp only [mup_mg, mg_mg, mg_1] at hM9
                  exact ⟨by simp [mup1], hM9, hT53⟩
                · refine aw_bipush (pc' := 75) (v := -4) eX7_plan_73 rfl (by decide) ?_
                  refine aw_ret (v := some (.int _)) eX7_plan_75 ⟨rfl, rfl⟩ (by omega) (by omega) rfl ?_
                  try simp only [zb_eq0, Bool.not_eq_false, Bool.not_eq_true, decide_eq_true_eq, decide_eq_false_iff_not, Decidable.not_not, hm.1] at c_16 c_21 c_26 c_39 c_46
                  have eok : sPlanOk m t p = true := by first | (simp [sPlanOk, c_16, c_21, c_26, c_39, c_46]; done) | (exfalso; simp_all; done) | (exfalso; have z := c_21.symm.trans c_39; exact absurd z (by decide)) | (exfalso; have z := c_26.symm.trans c_39; exact absurd z (by decide))
                  rw [hs] at c_70
                  rw [sPlan, if_neg c_2, if_pos eok, if_pos c_70]
                  exact ⟨rfl, by rw [mg_id]; exact hM, Same.rf⟩
              · exact absurd c_56 (by decide)
        · refine aw_aload_n (pc' := 30) eX7_plan_29 rfl rfl trivial ?_
          refine aw_iload_n (pc' := 31) eX7_plan_30 rfl rfl ?_
          refine aw_callv (pc' := 34) (nn := 1) (c_X7_isOne (d := d - 1) hM _ (by omega)) eX7_plan_31 rfl ⟨q897, q900, q62⟩ q899 q21 ⟨rfl, by decide +kernel, by decide +kernel, by decide +kernel⟩ rfl (by rw [hM.2.1]; exact ⟨rfl, rfl⟩) rfl ⟨by omega, by decide⟩ ⟨by omega, by omega⟩ rfl (Nat.le_of_ble_eq_true rfl) (fun v54 h55 hq56 => ?_)
          obtain ⟨rfl, rfl⟩ := hq56
          dsimp only [Option.toList, List.cons_append, List.nil_append]
          refine aw_if_ne (pc' := 37) (tgt := 49) eX7_plan_34 rfl (by decide) (fun c_34 => ?_) (fun c_34 => ?_)
          · refine aw_iconst (pc' := 50) (v := 1) eX7_plan_49 rfl (by decide) ?_
            refine aw_goto eX7_plan_50 (by decide) (tgt := 54) ?_
            refine aw_istore_n (pc' := 55) eX7_plan_54 rfl (by decide) ?_
            dsimp only [zst, zst2, zcut]
            refine aw_iload_n (pc' := 56) eX7_plan_55 rfl rfl ?_
            refine aw_if_ne (pc' := 59) (tgt := 61) eX7_plan_56 rfl (by decide) (fun c_56 => ?_) (fun c_56 => ?_)
            · refine aw_aload_n (pc' := 62) eX7_plan_61 rfl rfl trivial ?_
              refine aw_Mref (pc' := 65) (kf := 0) 1 hM eX7_plan_62 rfl (by decide) rfl q789 ?_
              refine aw_bipush (pc' := 67) (v := 85) eX7_plan_65 rfl (by decide) ?_
              refine aw_MaldC (pc' := 68) 1 85 hM eX7_plan_67 rfl (by decide) (by unfold vp_in; decide) (by decide) ?_
              refine aw_bipush (pc' := 70) (v := 10) eX7_plan_68 rfl (by decide) ?_
              refine aw_icmp_ne (pc' := 73) (tgt := 76) eX7_plan_70 rfl (by decide) (fun c_70 => ?_) (fun c_70 => ?_)
              · rw [hs] at c_70
                have ha5 : a < 10 := by
                  rcases Nat.lt_or_ge a 10 with z | z
                  · exact z
                  · exact absurd (by rw [show a = 10 by omega]; rfl) c_70
                have hx6 : (86 + 2 * U.1 1 85).toNatClampNeg = 86 + 2 * a := by rw [hs]; exact (ix3 (c := 86) (b := 2) (by omega)).1
                have hv6 : vp_in (86 + 2 * U.1 1 85) 123 := by rw [hs]; exact (ix3 (c := 86) (b := 2) (by omega)).2
                have e7 : ∀ x : Int32, (mup U 1 (86 + 2 * a) x).1 1 85 = nI a := fun x => by rw [mup1, upd_ne (by omega)]; exact hs
                have hx7 : ∀ x : Int32, (87 + 2 * (mup U 1 (86 + 2 * a) x).1 1 85).toNatClampNeg = 87 + 2 * a := fun x => by rw [e7]; exact (ix3 (c := 87) (b := 2) (by omega)).1
                have hv7 : ∀ x : Int32, vp_in (87 + 2 * (mup U 1 (86 + 2 * a) x).1 1 85) 123 := fun x => by rw [e7]; exact (ix3 (c := 87) (b := 2) (by omega)).2
                refine aw_aload_n (pc' := 77) eX7_plan_76 rfl rfl trivial ?_
                refine aw_Mref (pc' := 80) (kf := 0) 1 hM eX7_plan_77 rfl (by decide) rfl q789 ?_
                refine aw_bipush (pc' := 82) (v := 86) eX7_plan_80 rfl (by decide) ?_
                refine aw_iconst (pc' := 83) (v := 2) eX7_plan_82 rfl (by decide) ?_
                refine aw_aload_n (pc' := 84) eX7_plan_83 rfl rfl trivial ?_
                refine aw_Mref (pc' := 87) (kf := 0) 1 hM eX7_plan_84 rfl (by decide) rfl q789 ?_
                refine aw_bipush (pc' := 89) (v := 85) eX7_plan_87 rfl (by decide) ?_
                refine aw_MaldC (pc' := 90) 1 85 hM eX7_plan_89 rfl (by decide) (by unfold vp_in; decide) (by decide) ?_
                refine aw_imul (pc' := 91) eX7_plan_90 rfl ?_
                refine aw_iadd (pc' := 92) eX7_plan_91 rfl ?_
                refine aw_iload_n (pc' := 93) eX7_plan_92 rfl rfl ?_
                refine aw_MastC (pc' := 94) 1 (86 + 2 * a) hM eX7_plan_93 rfl (by decide) hv6 hx6 (fun h59 hM57 hs58 => ?_)
                refine aw_aload_n (pc' := 95) eX7_plan_94 rfl rfl trivial ?_
                refine aw_Mref (pc' := 98) (kf := 0) 1 hM57 eX7_plan_95 rfl (by decide) rfl q789 ?_
                refine aw_bipush (pc' := 100) (v := 87) eX7_plan_98 rfl (by decide) ?_
                refine aw_iconst (pc' := 101) (v := 2) eX7_plan_100 rfl (by decide) ?_
                refine aw_aload_n (pc' := 102) eX7_plan_101 rfl rfl trivial ?_
                refine aw_Mref (pc' := 105) (kf := 0) 1 hM57 eX7_plan_102 rfl (by decide) rfl q789 ?_
                refine aw_bipush (pc' := 107) (v := 85) eX7_plan_105 rfl (by decide) ?_
                refine aw_MaldC (pc' := 108) 1 85 hM57 eX7_plan_107 rfl (by decide) (by unfold vp_in; decide) (by decide) ?_
                refine aw_imul (pc' := 109) eX7_plan_108 rfl ?_
                refine aw_iadd (pc' := 110) eX7_plan_109 rfl ?_
                refine aw_iload_n (pc' := 111) eX7_plan_110 rfl rfl ?_
                refine aw_MastC (pc' := 112) 1 (87 + 2 * a) hM57 eX7_plan_111 rfl (by decide) (hv7 _) (hx7 _) (fun h62 hM60 hs61 => ?_)
                have hT63 := hs58.tr hs61
                refine aw_aload_n (pc' := 113) eX7_plan_112 rfl rfl trivial ?_
                refine aw_Mref (pc' := 116) (kf := 0) 1 hM60 eX7_plan_113 rfl (by decide) rfl q789 ?_
                refine aw_bipush (pc' := 118) (v := 85) eX7_plan_116 rfl (by decide) ?_
                refine aw_dup2 (pc' := 119) eX7_plan_118 rfl rfl rfl ?_
                refine aw_MaldC (pc' := 120) 1 85 hM60 eX7_plan_119 rfl (by decide) (by unfold vp_in; decide) (by decide) ?_
                refine aw_iconst (pc' := 121) (v := 1) eX7_plan_120 rfl (by decide) ?_
                refine aw_iadd (pc' := 122) eX7_plan_121 rfl ?_
                refine aw_MastC (pc' := 123) 1 85 hM60 eX7_plan_122 rfl (by decide) (by unfold vp_in; decide) (by decide) (fun h66 hM64 hs65 => ?_)
                have hT67 := hT63.tr hs65
                refine aw_aload_n (pc' := 124) eX7_plan_123 rfl rfl trivial ?_
                refine aw_Mref (pc' := 127) (kf := 0) 1 hM64 eX7_plan_124 rfl (by decide) rfl q789 ?_
                refine aw_bipush (pc' := 129) (v := 85) eX7_plan_127 rfl (by decide) ?_
                refine aw_MaldC (pc' := 130) 1 85 hM64 eX7_plan_129 rfl (by decide) (by unfold vp_in; decide) (by decide) ?_
                refine aw_ret (v := some (.int _)) eX7_plan_130 ⟨rfl, rfl⟩ (by omega) (by omega) rfl ?_
                try simp only [zb_eq0, Bool.not_eq_false, Bool.not_eq_true, decide_eq_true_eq, decide_eq_false_iff_not, Decidable.not_not, hm.1] at c_16 c_21 c_26 c_34
                have eok : sPlanOk m t p = true := by first | (simp [sPlanOk, c_16, c_21, c_26, c_34]; done) | (exfalso; simp_all; done) | (exfalso; have z := c_21.symm.trans c_39; exact absurd z (by decide)) | (exfalso; have z := c_26.symm.trans c_39; exact absurd z (by decide))
                rw [sPlan, if_neg c_2, if_pos eok, if_neg c_70]
                have hM9 := hM64
                simp only [mup_mg, mg_mg, mg_1] at hM9
                exact ⟨by simp [mup1], hM9, hT67⟩
              · refine aw_bipush (pc' := 75) (v := -4) eX7_plan_73 rfl (by decide) ?_
                refine aw_ret (v := some (.int _)) eX7_plan_75 ⟨rfl, rfl⟩ (by omega) (by omega) rfl ?_
                try simp only [zb_eq0, Bool.not_eq_false, Bool.not_eq_true, decide_eq_true_eq, decide_eq_false_iff_not, Decidable.not_not, hm.1] at c_16 c_21 c_26 c_34
                have eok : sPlanOk m t p = true := by first | (simp [sPlanOk, c_16, c_21, c_26, c_34]; done) | (exfalso; simp_all; done) | (exfalso; have z := c_21.symm.trans c_39; exact absurd z (by decide)) | (exfalso; have z := c_26.symm.trans c_39; exact absurd z (by decide))
                rw [hs] at c_70
                rw [sPlan, if_neg c_2, if_pos eok, if_pos c_70]
                exact ⟨rfl, by rw [mg_id]; exact hM, Same.rf⟩
            · exact absurd c_56 (by decide)
          · refine aw_iload_n (pc' := 38) eX7_plan_37 rfl rfl ?_
            refine aw_iconst (pc' := 39) (v := 3) eX7_plan_38 rfl (by decide) ?_
            refine aw_icmp_ne (pc' := 42) (tgt := 53) eX7_plan_39 rfl (by decide) (fun c_39 => ?_) (fun c_39 => ?_)
            · refine aw_iconst (pc' := 54) (v := 0) eX7_plan_53 rfl (by decide) ?_
              refine aw_istore_n (pc' := 55) eX7_plan_54 rfl (by decide) ?_
              dsimp only [zst, zst2, zcut]
              refine aw_iload_n (pc' := 56) eX7_plan_55 rfl rfl ?_
              refine aw_if_ne (pc' := 59) (tgt := 61) eX7_plan_56 rfl (by decide) (fun c_56 => ?_) (fun c_56 => ?_)
              · exact absurd c_56 (by decide)
              · refine aw_iconst (pc' := 60) (v := -1) eX7_plan_59 rfl (by decide) ?_
                refine aw_ret (v := some (.int _)) eX7_plan_60 ⟨rfl, rfl⟩ (by omega) (by omega) rfl ?_
                try simp only [zb_eq0, Bool.not_eq_false, Bool.not_eq_true, decide_eq_true_eq, decide_eq_false_iff_not, Decidable.not_not, hm.1] at c_16 c_21 c_26 c_34 c_39
                have eok : sPlanOk m t p = false := by first | (simp [sPlanOk, c_16, c_21, c_26, c_34, c_39]; done) | (exfalso; simp_all; done) | (exfalso; have z := c_21.symm.trans c_39; exact absurd z (by decide)) | (exfalso; have z := c_26.symm.trans c_39; exact absurd z (by decide))
                rw [sPlan, if_neg c_2, if_neg (by rw [eok]; decide)]
                exact ⟨rfl, by rw [mg_id]; exact hM, Same.rf⟩
            · refine aw_iload_n (pc' := 43) eX7_plan_42 rfl rfl ?_
              refine aw_calls (pc' := 46) (nn := 1) (c_X7_isPlace (d := d - 1) _ (by omega)) eX7_plan_43 rfl ⟨q1017, q1019, q62⟩ q1018 ⟨by decide +kernel, by decide +kernel, by decide +kernel⟩ rfl ⟨by omega, by decide⟩ ⟨by omega, by omega⟩ rfl (Nat.le_of_ble_eq_true rfl) (fun v68 h69 hq70 => ?_)
              obtain ⟨rfl, rfl⟩ := hq70
              dsimp only [Option.toList, List.cons_append, List.nil_append]
              refine aw_if_eq (pc' := 49) (tgt := 53) eX7_plan_46 rfl (by decide) (fun c_46 => ?_) (fun c_46 => ?_)
              · refine aw_iconst (pc' := 54) (v := 0) eX7_plan_53 rfl (by decide) ?_
                refine aw_istore_n (pc' := 55) eX7_plan_54 rfl (by decide) ?_
                dsimp only [zst, zst2, zcut]
                refine aw_iload_n (pc' := 56) eX7_plan_55 rfl rfl ?_
                refine aw_if_ne (pc' := 59) (tgt := 61) eX7_plan_56 rfl (by decide) (fun c_56 => ?_) (fun c_56 => ?_)
                · exact absurd c_56 (by decide)
                · refine aw_iconst (pc' := 60) (v := -1) eX7_plan_59 rfl (by decide) ?_
                  refine aw_ret (v := some (.int _)) eX7_plan_60 ⟨rfl, rfl⟩ (by omega) (by omega) rfl ?_
                  try simp only [zb_eq0, Bool.not_eq_false, Bool.not_eq_true, decide_eq_true_eq, decide_eq_false_iff_not, Decidable.not_not, hm.1] at c_16 c_21 c_26 c_34 c_39 c_46
                  have eok : sPlanOk m t p = false := by first | (simp [sPlanOk, c_16, c_21, c_26, c_34, c_39, c_46]; done) | (exfalso; simp_all; done) | (exfalso; have z := c_21.symm.trans c_39; exact absurd z (by decide)) | (exfalso; have z := c_26.symm.trans c_39; exact absurd z (by decide))
                  rw [sPlan, if_neg c_2, if_neg (by rw [eok]; decide)]
                  exact ⟨rfl, by rw [mg_id]; exact hM, Same.rf⟩
              · refine aw_iconst (pc' := 50) (v := 1) eX7_plan_49 rfl (by decide) ?_
                refine aw_goto eX7_plan_50 (by decide) (tgt := 54) ?_
                refine aw_istore_n (pc' := 55) eX7_plan_54 rfl (by decide) ?_
                dsimp only [zst, zst2, zcut]
                refine aw_iload_n (pc' := 56) eX7_plan_55 rfl rfl ?_
                refine aw_if_ne (pc' := 59) (tgt := 61) eX7_plan_56 rfl (by decide) (fun c_56 => ?_) (fun c_56 => ?_)
                · refine aw_aload_n (pc' := 62) eX7_plan_61 rfl rfl trivial ?_
                  refine aw_Mref (pc' := 65) (kf := 0) 1 hM eX7_plan_62 rfl (by decide) rfl q789 ?_
                  refine aw_bipush (pc' := 67) (v := 85) eX7_plan_65 rfl (by decide) ?_
                  refine aw_MaldC (pc' := 68) 1 85 hM eX7_plan_67 rfl (by decide) (by unfold vp_in; decide) (by decide) ?_
                  refine aw_bipush (pc' := 70) (v := 10) eX7_plan_68 rfl (by decide) ?_
                  refine aw_icmp_ne (pc' := 73) (tgt := 76) eX7_plan_70 rfl (by decide) (fun c_70 => ?_) (fun c_70 => ?_)
                  · rw [hs] at c_70
                    have ha5 : a < 10 := by
                      rcases Nat.lt_or_ge a 10 with z | z
                      · exact z
                      · exact absurd (by rw [show a = 10 by omega]; rfl) c_70
                    have hx6 : (86 + 2 * U.1 1 85).toNatClampNeg = 86 + 2 * a := by rw [hs]; exact (ix3 (c := 86) (b := 2) (by omega)).1
                    have hv6 : vp_in (86 + 2 * U.1 1 85) 123 := by rw [hs]; exact (ix3 (c := 86) (b := 2) (by omega)).2
                    have e7 : ∀ x : Int32, (mup U 1 (86 + 2 * a) x).1 1 85 = nI a := fun x => by rw [mup1, upd_ne (by omega)]; exact hs
                    have hx7 : ∀ x : Int32, (87 + 2 * (mup U 1 (86 + 2 * a) x).1 1 85).toNatClampNeg = 87 + 2 * a := fun x => by rw [e7]; exact (ix3 (c := 87) (b := 2) (by omega)).1
                    have hv7 : ∀ x : Int32, vp_in (87 + 2 * (mup U 1 (86 + 2 * a) x).1 1 85) 123 := fun x => by rw [e7]; exact (ix3 (c := 87) (b := 2) (by omega)).2
                    refine aw_aload_n (pc' := 77) eX7_plan_76 rfl rfl trivial ?_
                    refine aw_Mref (pc' := 80) (kf := 0) 1 hM eX7_plan_77 rfl (by decide) rfl q789 ?_
                    refine aw_bipush (pc' := 82) (v := 86) eX7_plan_80 rfl (by decide) ?_
                    refine aw_iconst (pc' := 83) (v := 2) eX7_plan_82 rfl (by decide) ?_
                    refine aw_aload_n (pc' := 84) eX7_plan_83 rfl rfl trivial ?_
                    refine aw_Mref (pc' := 87) (kf := 0) 1 hM eX7_plan_84 rfl (by decide) rfl q789 ?_
                    refine aw_bipush (pc' := 89) (v := 85) eX7_plan_87 rfl (by decide) ?_
                    refine aw_MaldC (pc' := 90) 1 85 hM eX7_plan_89 rfl (by decide) (by unfold vp_in; decide) (by decide) ?_
                    refine aw_imul (pc' := 91) eX7_plan_90 rfl ?_
                    refine aw_iadd (pc' := 92) eX7_plan_91 rfl ?_
                    refine aw_iload_n (pc' := 93) eX7_plan_92 rfl rfl ?_
                    refine aw_MastC (pc' := 94) 1 (86 + 2 * a) hM eX7_plan_93 rfl (by decide) hv6 hx6 (fun h73 hM71 hs72 => ?_)
                    refine aw_aload_n (pc' := 95) eX7_plan_94 rfl rfl trivial ?_
                    refine aw_Mref (pc' := 98) (kf := 0) 1 hM71 eX7_plan_95 rfl (by decide) rfl q789 ?_
                    refine aw_bipush (pc' := 100) (v := 87) eX7_plan_98 rfl (by decide) ?_
                    refine aw_iconst (pc' := 101) (v := 2) eX7_plan_100 rfl (by decide) ?_
                    refine aw_aload_n (pc' := 102) eX7_plan_101 rfl rfl trivial ?_
                    refine aw_Mref (pc' := 105) (kf := 0) 1 hM71 eX7_plan_102 rfl (by decide) rfl q789 ?_
                    refine aw_bipush (pc' := 107) (v := 85) eX7_plan_105 rfl (by decide) ?_
                    refine aw_MaldC (pc' := 108) 1 85 hM71 eX7_plan_107 rfl (by decide) (by unfold vp_in; decide) (by decide) ?_
                    refine aw_imul (pc' := 109) eX7_plan_108 rfl ?_
                    refine aw_iadd (pc' := 110) eX7_plan_109 rfl ?_
                    refine aw_iload_n (pc' := 111) eX7_plan_110 rfl rfl ?_
                    refine aw_MastC (pc' := 112) 1 (87 + 2 * a) hM71 eX7_plan_111 rfl (by decide) (hv7 _) (hx7 _) (fun h76 hM74 hs75 => ?_)
                    have hT77 := hs72.tr hs75
                    refine aw_aload_n (pc' := 113) eX7_plan_112 rfl rfl trivial ?_
                    refine aw_Mref (pc' := 116) (kf := 0) 1 hM74 eX7_plan_113 rfl (by decide) rfl q789 ?_
                    refine aw_bipush (pc' := 118) (v := 85) eX7_plan_116 rfl (by decide) ?_
                    refine aw_dup2 (pc' := 119) eX7_plan_118 rfl rfl rfl ?_
                    refine aw_MaldC (pc' := 120) 1 85 hM74 eX7_plan_119 rfl (by decide) (by unfold vp_in; decide) (by decide) ?_
                    refine aw_iconst (pc' := 121) (v := 1) eX7_plan_120 rfl (by decide) ?_
                    refine aw_iadd (pc' := 122) eX7_plan_121 rfl ?_
                    refine aw_MastC (pc' := 123) 1 85 hM74 eX7_plan_122 rfl (by decide) (by unfold vp_in; decide) (by decide) (fun h80 hM78 hs79 => ?_)
                    have hT81 := hT77.tr hs79
                    refine aw_aload_n (pc' := 124) eX7_plan_123 rfl rfl trivial ?_
                    refine aw_Mref (pc' := 127) (kf := 0) 1 hM78 eX7_plan_124 rfl (by decide) rfl q789 ?_
                    refine aw_bipush (pc' := 129) (v := 85) eX7_plan_127 rfl (by decide) ?_
                    refine aw_MaldC (pc' := 130) 1 85 hM78 eX7_plan_129 rfl (by decide) (by unfold vp_in; decide) (by decide) ?_
                    refine aw_ret (v := some (.int _)) eX7_plan_130 ⟨rfl, rfl⟩ (by omega) (by omega) rfl ?_
                    try simp only [zb_eq0, Bool.not_eq_false, Bool.not_eq_true, decide_eq_true_eq, decide_eq_false_iff_not, Decidable.not_not, hm.1] at c_16 c_21 c_26 c_34 c_39 c_46
                    have eok : sPlanOk m t p = true := by first | (simp [sPlanOk, c_16, c_21, c_26, c_34, c_39, c_46]; done) | (exfalso; simp_all; done) | (exfalso; have z := c_21.symm.trans c_39; exact absurd z (by decide)) | (exfalso; have z := c_26.symm.trans c_39; exact absurd z (by decide))
                    rw [sPlan, if_neg c_2, if_pos eok, if_neg c_70]
                    have hM9 := hM78
                    simp only [mup_mg, mg_mg, mg_1] at hM9
                    exact ⟨by simp [mup1], hM9, hT81⟩
                  · refine aw_bipush (pc' := 75) (v := -4) eX7_plan_73 rfl (by decide) ?_
                    refine aw_ret (v := some (.int _)) eX7_plan_75 ⟨rfl, rfl⟩ (by omega) (by omega) rfl ?_
                    try simp only [zb_eq0, Bool.not_eq_false, Bool.not_eq_true, decide_eq_true_eq, decide_eq_false_iff_not, Decidable.not_not, hm.1] at c_16 c_21 c_26 c_34 c_39 c_46
                    have eok : sPlanOk m t p = true := by first | (simp [sPlanOk, c_16, c_21, c_26, c_34, c_39, c_46]; done) | (exfalso; simp_all; done) | (exfalso; have z := c_21.symm.trans c_39; exact absurd z (by decide)) | (exfalso; have z := c_26.symm.trans c_39; exact absurd z (by decide))
                    rw [hs] at c_70
                    rw [sPlan, if_neg c_2, if_pos eok, if_pos c_70]
                    exact ⟨rfl, by rw [mg_id]; exact hM, Same.rf⟩
                · exact absurd c_56 (by decide)
  · refine aw_aload_n (pc' := 6) eX7_plan_5 rfl rfl trivial ?_
    refine aw_Mref (pc' := 9) (kf := 0) 1 hM eX7_plan_6 rfl (by decide) rfl q789 ?_
    refine aw_bipush (pc' := 11) (v := 85) eX7_plan_9 rfl (by decide) ?_
    refine aw_iconst (pc' := 12) (v := 0) eX7_plan_11 rfl (by decide) ?_
    refine aw_MastC (pc' := 13) 1 85 hM eX7_plan_12 rfl (by decide) (by unfold vp_in; decide) (by decide) (fun h84 hM82 hs83 => ?_)
    refine aw_iconst (pc' := 14) (v := 0) eX7_plan_13 rfl (by decide) ?_
    refine aw_ret (v := some (.int _)) eX7_plan_14 ⟨rfl, rfl⟩ (by omega) (by omega) rfl ?_
    try simp only [zb_eq0, Bool.not_eq_false, Bool.not_eq_true, decide_eq_true_eq, decide_eq_false_iff_not, Decidable.not_not, hm.1, mi] at c_2
    have hM9 := hM82
    try simp only [mi, mup_mg, mg_mg, mg_1] at hM9
    refine ⟨?_, ?_, hs83⟩
    · simp [sPlan, mi, hm.1, c_2]
    · simpa [sPlan, mg_id, hm.1, c_2] using hM9
end M3
end
section
/-! the model's further calls -/
section M4
variable {l : Launch} {G : GT} {d u : Nat} {h : Hp} {U : MS} {Q : Option Value → Hp → Prop}
/-- the model with another row of numbers -/
def mset (U : MS) (j : Nat) (f : Nat → Int32) : MS := (fun k => if k = j then f else U.1 k, U.2.1, U.2.2)
theorem mset_eq (U : MS) (j : Nat) (f : Nat → Int32) : (mset U j f).1 j = f := by simp [mset]
theorem mset_ne {U : MS} {j k : Nat} {f : Nat → Int32} (h : k ≠ j) : (mset U j f).1 k = U.1 k := by simp [mset, h]
theorem mset_set (U : MS) (j : Nat) (f f' : Nat → Int32) : mset (mset U j f) j f' = mset U j f' := by
  unfold mset
  congr 1
  funext k
  by_cases h : k = j <;> simp [h]
theorem mup_mset (U : MS) (j i : Nat) (x : Int32) : mup U j i x = mset U j (upd (U.1 j) i x) := rfl
theorem mg_mset (U : MS) (f : Nat → Int32) : mg U f = mset U 1 f := rfl
theorem MAt.gs {h : Hp} {u j : Nat} {U : MS} {f f' : Nat → Int32} (hM : MAt h u (mset U j f)) (he : ∀ i, i < mlen j → f i = f' i) : MAt h u (mset U j f') := by
  refine hM.ext (A := (mset U j f').1) fun k h1 h2 i hi => ?_
  by_cases hj : k = j
  · subst hj
    rw [mset_eq, mset_eq]
    exact he i hi
  · rw [mset_ne hj, mset_ne hj]
theorem MAt.id {h : Hp} {u j : Nat} {U : MS} {f : Nat → Int32} (hM : MAt h u U) (he : ∀ i, i < mlen j → U.1 j i = f i) : MAt h u (mset U j f) := by
  refine hM.ext (A := (mset U j f).1) fun k h1 h2 i hi => ?_
  by_cases hj : k = j
  · subst hj
    rw [mset_eq]
    exact he i hi
  · rw [mset_ne hj]

abbrev mX7_move : MT := (RX7, cX7_move, 3, none, false)
theorem eX7_move_0 : decode mX7_move.2.1 0 = .ok (.iconst 0, 1) := by decide +kernel
theorem eX7_move_1 : decode mX7_move.2.1 1 = .ok (.istore_n 2, 1) := by decide +kernel
theorem eX7_move_2 : decode mX7_move.2.1 2 = .ok (.iload_n 2, 1) := by decide +kernel
theorem eX7_move_3 : decode mX7_move.2.1 3 = .ok (.bipush 123, 2) := by decide +kernel
theorem eX7_move_5 : decode mX7_move.2.1 5 = .ok (.if_icmp .ge 15, 3) := by decide +kernel
theorem eX7_move_8 : decode mX7_move.2.1 8 = .ok (.aload_n 1, 1) := by decide +kernel
theorem eX7_move_9 : decode mX7_move.2.1 9 = .ok (.iload_n 2, 1) := by decide +kernel
theorem eX7_move_10 : decode mX7_move.2.1 10 = .ok (.aload_n 0, 1) := by decide +kernel
theorem eX7_move_11 : decode mX7_move.2.1 11 = .ok (.iload_n 2, 1) := by decide +kernel
theorem eX7_move_12 : decode mX7_move.2.1 12 = .ok (.iaload, 1) := by decide +kernel
theorem eX7_move_13 : decode mX7_move.2.1 13 = .ok (.iastore, 1) := by decide +kernel
theorem eX7_move_14 : decode mX7_move.2.1 14 = .ok (.iinc 2 1, 3) := by decide +kernel
theorem eX7_move_17 : decode mX7_move.2.1 17 = .ok (.goto (-15), 3) := by decide +kernel
theorem eX7_move_20 : decode mX7_move.2.1 20 = .ok (.return_, 1) := by decide +kernel
theorem mlen3 {j : Nat} (hj : j = 1 ∨ j = 2 ∨ j = 3) : mlen j = 123 ∧ 1 ≤ j ∧ j ≤ 16 ∧ mkd j = 0 := by
  rcases hj with rfl | rfl | rfl <;> decide
theorem lp_X7_move {j1 j2 : Nat} (h1 : j1 = 1 ∨ j1 = 2 ∨ j1 = 3) (h2 : j2 = 1 ∨ j2 = 2 ∨ j2 = 3) (hne : j1 ≠ j2) {h0 : Hp} (hQ : ∀ h', MAt h' u (mset U j2 (U.1 j1)) → Same u 19 h0 h' → Q none h') : ∀ (k i : Nat) (y : Int32) (h : Hp), k = 123 - i → i ≤ 123 → y = nI i → MAt h u (mset U j2 (fun q => if q < i then U.1 j1 q else U.1 j2 q)) → Same u 19 h0 h → AW l G mX7_move d 0 0 Q 0 0 h [some (.ref (u + j1)), some (.ref (u + j2)), some (.int y)] [] 2 := by
  intro k
  induction k using Nat.strongRecOn with
  | _ k ih =>
    intro i y h hk hi hy hM hs
    subst hy
    have m1 := mlen3 h1
    have m2 := mlen3 h2
    refine aw_iload_n (pc' := 3) eX7_move_2 rfl rfl ?_
    refine aw_bipush (pc' := 5) (v := 123) eX7_move_3 rfl (by decide) ?_
    refine aw_icmp_ge (pc' := 8) (tgt := 20) eX7_move_5 rfl (by decide) (fun c => ?_) (fun c => ?_)
    · have c9 : 123 ≤ i := ge_nI (b := 123) (by omega) (by omega) c
      refine aw_ret (v := none) eX7_move_20 rfl (by omega) (by omega) rfl ?_
      refine hQ h (hM.gs fun q hq => ?_) hs
      rw [m2.1] at hq
      rw [if_pos (by omega)]
    · have c9 : i < 123 := nge_nI (b := 123) (by omega) (by omega) c
      refine aw_aload_n (pc' := 9) eX7_move_8 rfl rfl trivial ?_
      refine aw_iload_n (pc' := 10) eX7_move_9 rfl rfl ?_
      refine aw_aload_n (pc' := 11) eX7_move_10 rfl rfl trivial ?_
      refine aw_iload_n (pc' := 12) eX7_move_11 rfl rfl ?_
      refine aw_MaldC (pc' := 13) j1 i hM eX7_move_12 rfl m1.2 (by rw [m1.1]; exact vp_in_nI c9 (by omega)) (nI_clamp (by omega)) ?_
      refine aw_MastC (pc' := 14) j2 i hM eX7_move_13 rfl m2.2 (by rw [m2.1]; exact vp_in_nI c9 (by omega)) (nI_clamp (by omega)) (fun h1' hM1 hs1 => ?_)
      refine aw_iinc (pc' := 17) eX7_move_14 rfl rfl rfl (by decide) ?_
      dsimp only [zst, zst2, zcut]
      refine aw_goto eX7_move_17 (by decide) (tgt := 2) ?_
      refine ih (123 - (i + 1)) (by omega) (i + 1) _ h1' rfl (by omega) (nI_inc i) ?_ (hs.tr hs1)
      rw [mup_mset, mset_set, mset_eq, mset_ne hne] at hM1
      refine hM1.gs fun q hq => ?_
      rw [upd_if]
      by_cases e : q = i
      · rw [if_pos e, if_pos (by omega), e]
      · rw [if_neg e]
        by_cases e2 : q < i
        · rw [if_pos e2, if_pos (by omega)]
        · rw [if_neg e2, if_neg (by omega)]
theorem c_X7_move (hM : MAt h u U) (j1 j2 : Nat) (h1 : j1 = 1 ∨ j1 = 2 ∨ j1 = 3) (h2 : j2 = 1 ∨ j2 = 2 ∨ j2 = 3) (hne : j1 ≠ j2) (hd : 0 ≤ d) : Ct l G mX7_move yX7_move d 0 0 [.ref (u + j1), .ref (u + j2)] h (fun r h' => r = none ∧ MAt h' u (mset U j2 (U.1 j1)) ∧ Same u 19 h h') := by
  refine ct_of (lv := [some (.ref (u + j1)), some (.ref (u + j2)), none]) (by decide +kernel) rfl (fun z => by cases z) (fun _ => rfl) (fun _ => Nat.le_of_ble_eq_true rfl) ?_
  refine aw_iconst (pc' := 1) (v := 0) eX7_move_0 rfl (by decide) ?_
  refine aw_istore_n (pc' := 2) eX7_move_1 rfl (by decide) ?_
  dsimp only [zst, zst2, zcut]
  exact lp_X7_move h1 h2 hne (fun h' a b => ⟨rfl, a, b⟩) 123 0 0 h rfl (by omega) rfl (hM.id fun i hi => by rw [if_neg (by omega)]) Same.rf
abbrev mX7_image : MT := (RX7, cX7_image, 1, (some .int), false)
theorem eX7_image_0 : decode mX7_image.2.1 0 = .ok (.aload_n 0, 1) := by decide +kernel
theorem eX7_image_1 : decode mX7_image.2.1 1 = .ok (.iconst 1, 1) := by decide +kernel
theorem eX7_image_2 : decode mX7_image.2.1 2 = .ok (.putfield 72, 3) := by decide +kernel
theorem eX7_image_5 : decode mX7_image.2.1 5 = .ok (.aload_n 0, 1) := by decide +kernel
theorem eX7_image_6 : decode mX7_image.2.1 6 = .ok (.getfield 15, 3) := by decide +kernel
theorem eX7_image_9 : decode mX7_image.2.1 9 = .ok (.aload_n 0, 1) := by decide +kernel
theorem eX7_image_10 : decode mX7_image.2.1 10 = .ok (.getfield 22, 3) := by decide +kernel
theorem eX7_image_13 : decode mX7_image.2.1 13 = .ok (.invokestatic 76, 3) := by decide +kernel
theorem eX7_image_16 : decode mX7_image.2.1 16 = .ok (.aload_n 0, 1) := by decide +kernel
theorem eX7_image_17 : decode mX7_image.2.1 17 = .ok (.getfield 15, 3) := by decide +kernel
theorem eX7_image_20 : decode mX7_image.2.1 20 = .ok (.bipush 60, 2) := by decide +kernel
theorem eX7_image_22 : decode mX7_image.2.1 22 = .ok (.iaload, 1) := by decide +kernel
theorem eX7_image_23 : decode mX7_image.2.1 23 = .ok (.ireturn, 1) := by decide +kernel
theorem c_X7_image (hM : MAt h u U) (hd : 1 ≤ d) : Ct l G mX7_image yX7_image d 0 0 [.ref u] h (fun r h' => r = some (.int (U.1 1 60)) ∧ MAt h' u (mset (msc U 3 1) 3 (U.1 1)) ∧ Same u 19 h h') := by
  refine ct_of (lv := [some (.ref u)]) (by decide +kernel) rfl (fun z => by cases z) (fun _ => rfl) (fun _ => Nat.le_of_ble_eq_true rfl) ?_
  refine aw_aload_n (pc' := 1) eX7_image_0 rfl rfl trivial ?_
  refine aw_iconst (pc' := 2) (v := 1) eX7_image_1 rfl (by decide) ?_
  refine aw_Mput (pc' := 5) 3 hM eX7_image_2 rfl (by decide) (fun _ => Or.inr rfl) q792 (fun h3 hM1 hs2 => ?_)
  refine aw_aload_n (pc' := 6) eX7_image_5 rfl rfl trivial ?_
  refine aw_Mref (pc' := 9) (kf := 0) 1 hM1 eX7_image_6 rfl (by decide) rfl q789 ?_
  refine aw_aload_n (pc' := 10) eX7_image_9 rfl rfl trivial ?_
  refine aw_Mref (pc' := 13) (kf := 2) 3 hM1 eX7_image_10 rfl (by decide) rfl q791 ?_
  refine aw_calls (pc' := 16) (nn := 2) (c_X7_move (d := d - 1) hM1 1 3 (by decide) (by decide) (by decide) (by omega)) eX7_image_13 rfl ⟨q879, q881, q62⟩ q880 ⟨by decide +kernel, by decide +kernel, by decide +kernel⟩ rfl ⟨by omega, by decide⟩ ⟨by omega, by omega⟩ rfl (Nat.le_of_ble_eq_true rfl) (fun v6 h7 hq8 => ?_)
  obtain ⟨rfl, hM4, hs5⟩ := hq8
  have hT9 := hs2.tr hs5
  dsimp only [Option.toList, List.cons_append, List.nil_append]
  refine aw_aload_n (pc' := 17) eX7_image_16 rfl rfl trivial ?_
  refine aw_Mref (pc' := 20) (kf := 0) 1 hM4 eX7_image_17 rfl (by decide) rfl q789 ?_
  refine aw_bipush (pc' := 22) (v := 60) eX7_image_20 rfl (by decide) ?_
  refine aw_MaldC (pc' := 23) 1 60 hM4 eX7_image_22 rfl (by decide) (by unfold vp_in; decide) (by decide) ?_
  refine aw_ret (v := some (.int _)) eX7_image_23 ⟨rfl, rfl⟩ (by omega) (by omega) rfl ?_
  have hM9 := hM4
  refine ⟨?_, hM9, hT9⟩
  rw [mset_ne (by decide)]
  rfl
abbrev mX7_undo : MT := (RX7, cX7_undo, 1, (some .int), false)
theorem eX7_undo_0 : decode mX7_undo.2.1 0 = .ok (.aload_n 0, 1) := by decide +kernel
theorem eX7_undo_1 : decode mX7_undo.2.1 1 = .ok (.getfield 72, 3) := by decide +kernel
theorem eX7_undo_4 : decode mX7_undo.2.1 4 = .ok (.ifCond .ne 6, 3) := by decide +kernel
theorem eX7_undo_7 : decode mX7_undo.2.1 7 = .ok (.bipush (-3), 2) := by decide +kernel
theorem eX7_undo_9 : decode mX7_undo.2.1 9 = .ok (.ireturn, 1) := by decide +kernel
theorem eX7_undo_10 : decode mX7_undo.2.1 10 = .ok (.aload_n 0, 1) := by decide +kernel
theorem eX7_undo_11 : decode mX7_undo.2.1 11 = .ok (.getfield 22, 3) := by decide +kernel
theorem eX7_undo_14 : decode mX7_undo.2.1 14 = .ok (.aload_n 0, 1) := by decide +kernel
theorem eX7_undo_15 : decode mX7_undo.2.1 15 = .ok (.getfield 15, 3) := by decide +kernel
theorem eX7_undo_18 : decode mX7_undo.2.1 18 = .ok (.invokestatic 76, 3) := by decide +kernel
theorem eX7_undo_21 : decode mX7_undo.2.1 21 = .ok (.aload_n 0, 1) := by decide +kernel
theorem eX7_undo_22 : decode mX7_undo.2.1 22 = .ok (.getfield 15, 3) := by decide +kernel
theorem eX7_undo_25 : decode mX7_undo.2.1 25 = .ok (.bipush 60, 2) := by decide +kernel
theorem eX7_undo_27 : decode mX7_undo.2.1 27 = .ok (.iaload, 1) := by decide +kernel
theorem eX7_undo_28 : decode mX7_undo.2.1 28 = .ok (.ireturn, 1) := by decide +kernel
theorem c_X7_undo (hM : MAt h u U) (hd : 1 ≤ d) : Ct l G mX7_undo yX7_undo d 0 0 [.ref u] h (fun r h' => r = some (.int (if U.2.1 3 = 0 then -3 else U.1 3 60)) ∧ MAt h' u (if U.2.1 3 = 0 then U else mset U 1 (U.1 3)) ∧ Same u 19 h h') := by
  refine ct_of (lv := [some (.ref u)]) (by decide +kernel) rfl (fun z => by cases z) (fun _ => rfl) (fun _ => Nat.le_of_ble_eq_true rfl) ?_
  refine aw_aload_n (pc' := 1) eX7_undo_0 rfl rfl trivial ?_
  refine aw_Mint (pc' := 4) (kf := 3) hM eX7_undo_1 rfl (by decide) q792 ?_
  refine aw_if_ne (pc' := 7) (tgt := 10) eX7_undo_4 rfl (by decide) (fun c_4 => ?_) (fun c_4 => ?_)
  · refine aw_aload_n (pc' := 11) eX7_undo_10 rfl rfl trivial ?_
    refine aw_Mref (pc' := 14) (kf := 2) 3 hM eX7_undo_11 rfl (by decide) rfl q791 ?_
    refine aw_aload_n (pc' := 15) eX7_undo_14 rfl rfl trivial ?_
    refine aw_Mref (pc' := 18) (kf := 0) 1 hM eX7_undo_15 rfl (by decide) rfl q789 ?_
    refine aw_calls (pc' := 21) (nn := 2) (c_X7_move (d := d - 1) hM 3 1 (by decide) (by decide) (by decide) (by omega)) eX7_undo_18 rfl ⟨q879, q881, q62⟩ q880 ⟨by decide +kernel, by decide +kernel, by decide +kernel⟩ rfl ⟨by omega, by decide⟩ ⟨by omega, by omega⟩ rfl (Nat.le_of_ble_eq_true rfl) (fun v3 h4 hq5 => ?_)
    obtain ⟨rfl, hM1, hs2⟩ := hq5
    dsimp only [Option.toList, List.cons_append, List.nil_append]
    refine aw_aload_n (pc' := 22) eX7_undo_21 rfl rfl trivial ?_
    refine aw_Mref (pc' := 25) (kf := 0) 1 hM1 eX7_undo_22 rfl (by decide) rfl q789 ?_
    refine aw_bipush (pc' := 27) (v := 60) eX7_undo_25 rfl (by decide) ?_
    refine aw_MaldC (pc' := 28) 1 60 hM1 eX7_undo_27 rfl (by decide) (by unfold vp_in; decide) (by decide) ?_
    refine aw_ret (v := some (.int _)) eX7_undo_28 ⟨rfl, rfl⟩ (by omega) (by omega) rfl ?_
    have hM9 := hM1
    refine ⟨?_, ?_, hs2⟩
    · rw [if_neg c_4, mset_eq]
    · rw [if_neg c_4]
      exact hM9
  · refine aw_bipush (pc' := 9) (v := -3) eX7_undo_7 rfl (by decide) ?_
    refine aw_ret (v := some (.int _)) eX7_undo_9 ⟨rfl, rfl⟩ (by omega) (by omega) rfl ?_
    exact ⟨by rw [if_pos (by first | exact c_4 | exact Decidable.not_not.mp c_4)], by rw [if_pos (by first | exact c_4 | exact Decidable.not_not.mp c_4)]; exact hM, Same.rf⟩
end M4
end
section
/-! the model's further calls, II -/
section M5
variable {l : Launch} {G : GT} {d u : Nat} {h : Hp} {U : MS} {Q : Option Value → Hp → Prop}

theorem sSays_hi {g : Nat → Int32} {i j : Nat} (hj : 60 ≤ j) (hi : i < 6) : sSays g i j = g j := by
  unfold sSays
  split
  · rw [upd_ne (by omega), upd_ne (by omega)]
  · rfl
def sTell (g : Nat → Int32) (m : Nat) (t : Int32) : Int32 × (Nat → Int32) :=
  if bIn t 0 (nI m - 1) = true then if g (10 * t.toNatClampNeg + 3) = 0 then (sCnt (sSays g t.toNatClampNeg) 1 m, sSays g t.toNatClampNeg) else (-3, g) else (-1, g)
abbrev mX7_tell : MT := (RX7, cX7_tell, 2, (some .int), false)
theorem eX7_tell_0 : decode mX7_tell.2.1 0 = .ok (.aload_n 0, 1) := by decide +kernel
theorem eX7_tell_1 : decode mX7_tell.2.1 1 = .ok (.iload_n 1, 1) := by decide +kernel
theorem eX7_tell_2 : decode mX7_tell.2.1 2 = .ok (.invokevirtual 88, 3) := by decide +kernel
theorem eX7_tell_5 : decode mX7_tell.2.1 5 = .ok (.ifCond .ne 5, 3) := by decide +kernel
theorem eX7_tell_8 : decode mX7_tell.2.1 8 = .ok (.iconst (-1), 1) := by decide +kernel
theorem eX7_tell_9 : decode mX7_tell.2.1 9 = .ok (.ireturn, 1) := by decide +kernel
theorem eX7_tell_10 : decode mX7_tell.2.1 10 = .ok (.aload_n 0, 1) := by decide +kernel
theorem eX7_tell_11 : decode mX7_tell.2.1 11 = .ok (.iload_n 1, 1) := by decide +kernel
theorem eX7_tell_12 : decode mX7_tell.2.1 12 = .ok (.iconst 0, 1) := by decide +kernel
theorem eX7_tell_13 : decode mX7_tell.2.1 13 = .ok (.invokevirtual 105, 3) := by decide +kernel
theorem eX7_tell_16 : decode mX7_tell.2.1 16 = .ok (.ifCond .ne 6, 3) := by decide +kernel
theorem eX7_tell_19 : decode mX7_tell.2.1 19 = .ok (.bipush (-3), 2) := by decide +kernel
theorem eX7_tell_21 : decode mX7_tell.2.1 21 = .ok (.ireturn, 1) := by decide +kernel
theorem eX7_tell_22 : decode mX7_tell.2.1 22 = .ok (.aload_n 0, 1) := by decide +kernel
theorem eX7_tell_23 : decode mX7_tell.2.1 23 = .ok (.iload_n 1, 1) := by decide +kernel
theorem eX7_tell_24 : decode mX7_tell.2.1 24 = .ok (.invokevirtual 113, 3) := by decide +kernel
theorem eX7_tell_27 : decode mX7_tell.2.1 27 = .ok (.aload_n 0, 1) := by decide +kernel
theorem eX7_tell_28 : decode mX7_tell.2.1 28 = .ok (.iconst 1, 1) := by decide +kernel
theorem eX7_tell_29 : decode mX7_tell.2.1 29 = .ok (.invokevirtual 117, 3) := by decide +kernel
theorem eX7_tell_32 : decode mX7_tell.2.1 32 = .ok (.ireturn, 1) := by decide +kernel
theorem c_X7_tell (hM : MAt h u U) {m : Nat} (hm : mOk U m) (t : Int32) (hd : 4 ≤ d) : Ct l G mX7_tell yX7_tell d 0 0 [.ref u, .int t] h (fun r h' => r = some (.int (sTell (U.1 1) m t).1) ∧ MAt h' u (mg U (sTell (U.1 1) m t).2) ∧ Same u 19 h h') := by
  refine ct_of (lv := [some (.ref u), some (.int t)]) (by decide +kernel) rfl (fun z => by cases z) (fun _ => rfl) (fun _ => Nat.le_of_ble_eq_true rfl) ?_
  refine aw_aload_n (pc' := 1) eX7_tell_0 rfl rfl trivial ?_
  refine aw_iload_n (pc' := 2) eX7_tell_1 rfl rfl ?_
  refine aw_callv (pc' := 5) (nn := 1) (c_X7_isOne (d := d - 1) hM _ (by omega)) eX7_tell_2 rfl ⟨q897, q900, q62⟩ q899 q21 ⟨rfl, by decide +kernel, by decide +kernel, by decide +kernel⟩ rfl (by rw [hM.2.1]; exact ⟨rfl, rfl⟩) rfl ⟨by omega, by decide⟩ ⟨by omega, by omega⟩ rfl (Nat.le_of_ble_eq_true rfl) (fun v1 h2 hq3 => ?_)
  obtain ⟨rfl, rfl⟩ := hq3
  dsimp only [Option.toList, List.cons_append, List.nil_append]
  refine aw_if_ne (pc' := 8) (tgt := 10) eX7_tell_5 rfl (by decide) (fun c_5 => ?_) (fun c_5 => ?_)
  · simp only [zb_eq0, Bool.not_eq_false, Bool.not_eq_true, decide_eq_true_eq, decide_eq_false_iff_not, Decidable.not_not] at c_5
    rw [hm.1] at c_5
    obtain ⟨i, hi, rfl⟩ := (bIn_one hm.2).mp c_5
    have hm6 := hm.2
    have cli : (nI i).toNatClampNeg = i := nI_clamp (by omega)
    have hx3 : (10 * nI i + 3).toNatClampNeg = 10 * i + 3 := ix10c (c := 3) (by omega)
    refine aw_aload_n (pc' := 11) eX7_tell_10 rfl rfl trivial ?_
    refine aw_iload_n (pc' := 12) eX7_tell_11 rfl rfl ?_
    refine aw_iconst (pc' := 13) (v := 0) eX7_tell_12 rfl (by decide) ?_
    refine aw_callv (pc' := 16) (nn := 2) (c_X7_isAs (d := d - 1) hM _ _ (show vp_in (10 * nI i + 3) 123 from ix10v (c := 3) (by omega)) (by omega)) eX7_tell_13 rfl ⟨q957, q960, q62⟩ q959 q36 ⟨rfl, by decide +kernel, by decide +kernel, by decide +kernel⟩ rfl (by rw [hM.2.1]; exact ⟨rfl, rfl⟩) rfl ⟨by omega, by decide⟩ ⟨by omega, by omega⟩ rfl (Nat.le_of_ble_eq_true rfl) (fun v4 h5 hq6 => ?_)
    obtain ⟨rfl, rfl⟩ := hq6
    dsimp only [Option.toList, List.cons_append, List.nil_append]
    refine aw_if_ne (pc' := 19) (tgt := 22) eX7_tell_16 rfl (by decide) (fun c_16 => ?_) (fun c_16 => ?_)
    · refine aw_aload_n (pc' := 23) eX7_tell_22 rfl rfl trivial ?_
      refine aw_iload_n (pc' := 24) eX7_tell_23 rfl rfl ?_
      refine aw_callv (pc' := 27) (nn := 1) (c_X7_says (d := d - 1) hM _ (by omega) (by omega)) eX7_tell_24 rfl ⟨q997, q1000, q62⟩ q999 q45 ⟨rfl, by decide +kernel, by decide +kernel, by decide +kernel⟩ rfl (by rw [hM.2.1]; exact ⟨rfl, rfl⟩) rfl ⟨by omega, by decide⟩ ⟨by omega, by omega⟩ rfl (Nat.le_of_ble_eq_true rfl) (fun v9 h10 hq11 => ?_)
      obtain ⟨rfl, hM7, hs8⟩ := hq11
      dsimp only [Option.toList, List.cons_append, List.nil_append]
      refine aw_aload_n (pc' := 28) eX7_tell_27 rfl rfl trivial ?_
      refine aw_iconst (pc' := 29) (v := 1) eX7_tell_28 rfl (by decide) ?_
      refine aw_callv (pc' := 32) (nn := 1) (c_X7_howMany (d := d - 1) hM7 (show mOk (mg U (sSays (U.1 1) i)) m from ⟨by rw [mg_1, sSays_hi (by omega) (by omega)]; exact hm.1, hm.2⟩) _ (by omega)) eX7_tell_29 rfl ⟨q1005, q1008, q62⟩ q1007 q46 ⟨rfl, by decide +kernel, by decide +kernel, by decide +kernel⟩ rfl (by rw [hM7.2.1]; exact ⟨rfl, rfl⟩) rfl ⟨by omega, by decide⟩ ⟨by omega, by omega⟩ rfl (Nat.le_of_ble_eq_true rfl) (fun v12 h13 hq14 => ?_)
      obtain ⟨rfl, rfl⟩ := hq14
      dsimp only [Option.toList, List.cons_append, List.nil_append]
      refine aw_ret (v := some (.int _)) eX7_tell_32 ⟨rfl, rfl⟩ (by omega) (by omega) rfl ?_
      try simp only [zb_eq0, Bool.not_eq_false, Bool.not_eq_true, decide_eq_true_eq, decide_eq_false_iff_not, Decidable.not_not, hm.1, mi, hx3] at c_5 c_16
      have hM9 := hM7
      try simp only [mi, hx3, mup_mg, mg_mg, mg_1] at hM9
      refine ⟨?_, ?_, hs8⟩
      · simp [sTell, mi, hm.1, hx3, cli, mg_1, c_5, c_16]
      · simpa [sTell, mg_id, hm.1, hx3, cli, mg_1, c_5, c_16] using hM9
    · refine aw_bipush (pc' := 21) (v := -3) eX7_tell_19 rfl (by decide) ?_
      refine aw_ret (v := some (.int _)) eX7_tell_21 ⟨rfl, rfl⟩ (by omega) (by omega) rfl ?_
      try simp only [zb_eq0, Bool.not_eq_false, Bool.not_eq_true, decide_eq_true_eq, decide_eq_false_iff_not, Decidable.not_not, hm.1, mi, hx3] at c_5 c_16
      have hM9 := hM
      try simp only [mi, hx3, mup_mg, mg_mg, mg_1] at hM9
      refine ⟨?_, ?_, Same.rf⟩
      · simp [sTell, mi, hm.1, hx3, cli, mg_1, c_5, c_16]
      · simpa [sTell, mg_id, hm.1, hx3, cli, mg_1, c_5, c_16] using hM9
  · refine aw_iconst (pc' := 9) (v := -1) eX7_tell_8 rfl (by decide) ?_
    refine aw_ret (v := some (.int _)) eX7_tell_9 ⟨rfl, rfl⟩ (by omega) (by omega) rfl ?_
    try simp only [zb_eq0, Bool.not_eq_false, Bool.not_eq_true, decide_eq_true_eq, decide_eq_false_iff_not, Decidable.not_not, hm.1, mi] at c_5
    have hM9 := hM
    try simp only [mi, mup_mg, mg_mg, mg_1] at hM9
    refine ⟨?_, ?_, Same.rf⟩
    · simp [sTell, mi, hm.1, c_5]
    · simpa [sTell, mg_id, hm.1, c_5] using hM9
def sLook (g : Nat → Int32) : Nat → Nat → Int32
  | 0, _ => -5
  | k + 1, r => if g (10 * (g (107 + 2 * r)).toNatClampNeg + 5) = g (108 + 2 * r) then sLook g k (r + 1) else nI r
abbrev mX7_looked : MT := (RX7, cX7_looked, 2, (some .int), false)
theorem eX7_looked_0 : decode mX7_looked.2.1 0 = .ok (.iconst 0, 1) := by decide +kernel
theorem eX7_looked_1 : decode mX7_looked.2.1 1 = .ok (.istore_n 1, 1) := by decide +kernel
theorem eX7_looked_2 : decode mX7_looked.2.1 2 = .ok (.iload_n 1, 1) := by decide +kernel
theorem eX7_looked_3 : decode mX7_looked.2.1 3 = .ok (.aload_n 0, 1) := by decide +kernel
theorem eX7_looked_4 : decode mX7_looked.2.1 4 = .ok (.getfield 15, 3) := by decide +kernel
theorem eX7_looked_7 : decode mX7_looked.2.1 7 = .ok (.bipush 106, 2) := by decide +kernel
theorem eX7_looked_9 : decode mX7_looked.2.1 9 = .ok (.iaload, 1) := by decide +kernel
theorem eX7_looked_10 : decode mX7_looked.2.1 10 = .ok (.if_icmp .ge 41, 3) := by decide +kernel
theorem eX7_looked_13 : decode mX7_looked.2.1 13 = .ok (.aload_n 0, 1) := by decide +kernel
theorem eX7_looked_14 : decode mX7_looked.2.1 14 = .ok (.aload_n 0, 1) := by decide +kernel
theorem eX7_looked_15 : decode mX7_looked.2.1 15 = .ok (.getfield 15, 3) := by decide +kernel
theorem eX7_looked_18 : decode mX7_looked.2.1 18 = .ok (.bipush 107, 2) := by decide +kernel
theorem eX7_looked_20 : decode mX7_looked.2.1 20 = .ok (.iconst 2, 1) := by decide +kernel
theorem eX7_looked_21 : decode mX7_looked.2.1 21 = .ok (.iload_n 1, 1) := by decide +kernel
theorem eX7_looked_22 : decode mX7_looked.2.1 22 = .ok (.imul, 1) := by decide +kernel
theorem eX7_looked_23 : decode mX7_looked.2.1 23 = .ok (.iadd, 1) := by decide +kernel
theorem eX7_looked_24 : decode mX7_looked.2.1 24 = .ok (.iaload, 1) := by decide +kernel
theorem eX7_looked_25 : decode mX7_looked.2.1 25 = .ok (.iconst 5, 1) := by decide +kernel
theorem eX7_looked_26 : decode mX7_looked.2.1 26 = .ok (.invokevirtual 84, 3) := by decide +kernel
theorem eX7_looked_29 : decode mX7_looked.2.1 29 = .ok (.aload_n 0, 1) := by decide +kernel
theorem eX7_looked_30 : decode mX7_looked.2.1 30 = .ok (.getfield 15, 3) := by decide +kernel
theorem eX7_looked_33 : decode mX7_looked.2.1 33 = .ok (.bipush 108, 2) := by decide +kernel
theorem eX7_looked_35 : decode mX7_looked.2.1 35 = .ok (.iconst 2, 1) := by decide +kernel
theorem eX7_looked_36 : decode mX7_looked.2.1 36 = .ok (.iload_n 1, 1) := by decide +kernel
theorem eX7_looked_37 : decode mX7_looked.2.1 37 = .ok (.imul, 1) := by decide +kernel
theorem eX7_looked_38 : decode mX7_looked.2.1 38 = .ok (.iadd, 1) := by decide +kernel
theorem eX7_looked_39 : decode mX7_looked.2.1 39 = .ok (.iaload, 1) := by decide +kernel
theorem eX7_looked_40 : decode mX7_looked.2.1 40 = .ok (.if_icmp .eq 5, 3) := by decide +kernel
theorem eX7_looked_43 : decode mX7_looked.2.1 43 = .ok (.iload_n 1, 1) := by decide +kernel
theorem eX7_looked_44 : decode mX7_looked.2.1 44 = .ok (.ireturn, 1) := by decide +kernel
theorem eX7_looked_45 : decode mX7_looked.2.1 45 = .ok (.iinc 1 1, 3) := by decide +kernel
theorem eX7_looked_48 : decode mX7_looked.2.1 48 = .ok (.goto (-46), 3) := by decide +kernel
theorem eX7_looked_51 : decode mX7_looked.2.1 51 = .ok (.bipush (-5), 2) := by decide +kernel
theorem eX7_looked_53 : decode mX7_looked.2.1 53 = .ok (.ireturn, 1) := by decide +kernel
theorem lp_X7_looked (hM : MAt h u U) {a : Nat} (ha : a ≤ 8) (hs : U.1 1 106 = nI a) (hrow : ∀ r, r < a → ∃ b, b < 6 ∧ U.1 1 (107 + 2 * r) = nI b) (hd : 2 ≤ d) : ∀ (k r : Nat) (y : Int32), k = a - r → r ≤ a → y = nI r → Q (some (.int (sLook (U.1 1) (a - r) r))) h → AW l G mX7_looked d 0 0 Q 0 0 h [some (.ref u), some (.int y)] [] 2 := by
  intro k
  induction k using Nat.strongRecOn with
  | _ k ih =>
    intro r y hk hi hy hQ
    subst hy
    refine aw_iload_n (pc' := 3) eX7_looked_2 rfl rfl ?_
    refine aw_aload_n (pc' := 4) eX7_looked_3 rfl rfl trivial ?_
    refine aw_Mref (pc' := 7) (kf := 0) 1 hM eX7_looked_4 rfl (by decide) rfl q789 ?_
    refine aw_bipush (pc' := 9) (v := 106) eX7_looked_7 rfl (by decide) ?_
    refine aw_MaldC (pc' := 10) 1 106 hM eX7_looked_9 rfl (by decide) (by unfold vp_in; decide) (by decide) ?_
    refine aw_icmp_ge (pc' := 13) (tgt := 51) eX7_looked_10 rfl (by decide) (fun c_10 => ?_) (fun c_10 => ?_)
    · rw [hs] at c_10
      have c9 := ge_nI (by omega) (by omega) c_10
      obtain rfl : r = a := by omega
      refine aw_bipush (pc' := 53) (v := -5) eX7_looked_51 rfl (by decide) ?_
      refine aw_ret (v := some (.int _)) eX7_looked_53 ⟨rfl, rfl⟩ (by omega) (by omega) rfl ?_
      rw [Nat.sub_self, sLook] at hQ
      exact hQ
    · rw [hs] at c_10
      have c9 := nge_nI (by omega) (by omega) c_10
      obtain ⟨b, hb, eb⟩ := hrow r c9
      obtain ⟨hx7, hv7⟩ := ix3 (c := 107) (b := 2) (a := r) (by omega)
      obtain ⟨hx8, hv8⟩ := ix3 (c := 108) (b := 2) (a := r) (by omega)
      have hx5 : (10 * nI b + 5).toNatClampNeg = 10 * b + 5 := ix10c (c := 5) (by omega)
      have hv5 : vp_in (10 * U.1 1 (107 + 2 * r) + 5) 123 := by rw [eb]; exact ix10v (c := 5) (by omega)
      have ek : a - r = (a - (r + 1)) + 1 := by omega
      refine aw_aload_n (pc' := 14) eX7_looked_13 rfl rfl trivial ?_
      refine aw_aload_n (pc' := 15) eX7_looked_14 rfl rfl trivial ?_
      refine aw_Mref (pc' := 18) (kf := 0) 1 hM eX7_looked_15 rfl (by decide) rfl q789 ?_
      refine aw_bipush (pc' := 20) (v := 107) eX7_looked_18 rfl (by decide) ?_
      refine aw_iconst (pc' := 21) (v := 2) eX7_looked_20 rfl (by decide) ?_
      refine aw_iload_n (pc' := 22) eX7_looked_21 rfl rfl ?_
      refine aw_imul (pc' := 23) eX7_looked_22 rfl ?_
      refine aw_iadd (pc' := 24) eX7_looked_23 rfl ?_
      refine aw_MaldC (pc' := 25) 1 (107 + 2 * r) hM eX7_looked_24 rfl (by decide) hv7 hx7 ?_
      refine aw_iconst (pc' := 26) (v := 5) eX7_looked_25 rfl (by decide) ?_
      refine aw_callv (pc' := 29) (nn := 2) (c_X7_one (d := d - 1) hM _ _ hv5 (by omega)) eX7_looked_26 rfl ⟨q901, q904, q62⟩ q903 q22 ⟨rfl, by decide +kernel, by decide +kernel, by decide +kernel⟩ rfl (by rw [hM.2.1]; exact ⟨rfl, rfl⟩) rfl ⟨by omega, by decide⟩ ⟨by omega, by omega⟩ rfl (Nat.le_of_ble_eq_true rfl) (fun v1 h2 hq3 => ?_)
      obtain ⟨rfl, rfl⟩ := hq3
      dsimp only [Option.toList, List.cons_append, List.nil_append]
      refine aw_aload_n (pc' := 30) eX7_looked_29 rfl rfl trivial ?_
      refine aw_Mref (pc' := 33) (kf := 0) 1 hM eX7_looked_30 rfl (by decide) rfl q789 ?_
      refine aw_bipush (pc' := 35) (v := 108) eX7_looked_33 rfl (by decide) ?_
      refine aw_iconst (pc' := 36) (v := 2) eX7_looked_35 rfl (by decide) ?_
      refine aw_iload_n (pc' := 37) eX7_looked_36 rfl rfl ?_
      refine aw_imul (pc' := 38) eX7_looked_37 rfl ?_
      refine aw_iadd (pc' := 39) eX7_looked_38 rfl ?_
      refine aw_MaldC (pc' := 40) 1 (108 + 2 * r) hM eX7_looked_39 rfl (by decide) hv8 hx8 ?_
      refine aw_icmp_eq (pc' := 43) (tgt := 45) eX7_looked_40 rfl (by decide) (fun c_40 => ?_) (fun c_40 => ?_)
      · refine aw_iinc (pc' := 48) eX7_looked_45 rfl rfl rfl (by decide) ?_
        dsimp only [zst, zst2, zcut]
        refine aw_goto eX7_looked_48 (by decide) (tgt := 2) ?_
        refine ih (a - (r + 1)) (by omega) (r + 1) _ rfl (by omega) (nI_inc r) ?_
        simp only [mi, eb, hx5] at c_40
        rw [ek, sLook, eb, nI_clamp (by omega), if_pos c_40] at hQ
        exact hQ
      · refine aw_iload_n (pc' := 44) eX7_looked_43 rfl rfl ?_
        refine aw_ret (v := some (.int _)) eX7_looked_44 ⟨rfl, rfl⟩ (by omega) (by omega) rfl ?_
        simp only [mi, eb, hx5] at c_40
        rw [ek, sLook, eb, nI_clamp (by omega), if_neg c_40] at hQ
        exact hQ
theorem c_X7_looked (hM : MAt h u U) {a : Nat} (ha : a ≤ 8) (hs : U.1 1 106 = nI a) (hrow : ∀ r, r < a → ∃ b, b < 6 ∧ U.1 1 (107 + 2 * r) = nI b) (hd : 2 ≤ d) : Ct l G mX7_looked yX7_looked d 0 0 [.ref u] h (fun r h' => r = some (.int (sLook (U.1 1) a 0)) ∧ h' = h) := by
  refine ct_of (lv := [some (.ref u), none]) (by decide +kernel) rfl (fun z => by cases z) (fun _ => rfl) (fun _ => Nat.le_of_ble_eq_true rfl) ?_
  refine aw_iconst (pc' := 1) (v := 0) eX7_looked_0 rfl (by decide) ?_
  refine aw_istore_n (pc' := 2) eX7_looked_1 rfl (by decide) ?_
  dsimp only [zst, zst2, zcut]
  exact lp_X7_looked hM ha hs hrow hd a 0 _ (by omega) (by omega) rfl ⟨rfl, rfl⟩
def sTrace (f : Nat → Int32) (ran i : Int32) : Int32 := if bIn i 0 ((if ran < 20 then ran else 20) - 1) = true then f i.toNatClampNeg else -1
abbrev mX7_trace : MT := (RX7, cX7_trace, 2, (some .int), false)
theorem eX7_trace_0 : decode mX7_trace.2.1 0 = .ok (.iload_n 1, 1) := by decide +kernel
theorem eX7_trace_1 : decode mX7_trace.2.1 1 = .ok (.iconst 0, 1) := by decide +kernel
theorem eX7_trace_2 : decode mX7_trace.2.1 2 = .ok (.bipush 20, 2) := by decide +kernel
theorem eX7_trace_4 : decode mX7_trace.2.1 4 = .ok (.aload_n 0, 1) := by decide +kernel
theorem eX7_trace_5 : decode mX7_trace.2.1 5 = .ok (.getfield 236, 3) := by decide +kernel
theorem eX7_trace_8 : decode mX7_trace.2.1 8 = .ok (.invokestatic 186, 3) := by decide +kernel
theorem eX7_trace_11 : decode mX7_trace.2.1 11 = .ok (.iconst 1, 1) := by decide +kernel
theorem eX7_trace_12 : decode mX7_trace.2.1 12 = .ok (.isub, 1) := by decide +kernel
theorem eX7_trace_13 : decode mX7_trace.2.1 13 = .ok (.invokestatic 80, 3) := by decide +kernel
theorem eX7_trace_16 : decode mX7_trace.2.1 16 = .ok (.ifCond .eq 12, 3) := by decide +kernel
theorem eX7_trace_19 : decode mX7_trace.2.1 19 = .ok (.aload_n 0, 1) := by decide +kernel
theorem eX7_trace_20 : decode mX7_trace.2.1 20 = .ok (.getfield 56, 3) := by decide +kernel
theorem eX7_trace_23 : decode mX7_trace.2.1 23 = .ok (.iload_n 1, 1) := by decide +kernel
theorem eX7_trace_24 : decode mX7_trace.2.1 24 = .ok (.iaload, 1) := by decide +kernel
theorem eX7_trace_25 : decode mX7_trace.2.1 25 = .ok (.goto 4, 3) := by decide +kernel
theorem eX7_trace_28 : decode mX7_trace.2.1 28 = .ok (.iconst (-1), 1) := by decide +kernel
theorem eX7_trace_29 : decode mX7_trace.2.1 29 = .ok (.ireturn, 1) := by decide +kernel
theorem c_X7_trace (hM : MAt h u U) {r : Nat} (hr : U.2.1 23 = nI r) (hr2 : r < 2 ^ 31) (i : Int32) (hd : 2 ≤ d) : Ct l G mX7_trace yX7_trace d 0 0 [.ref u, .int i] h (fun r h' => r = some (.int (sTrace (U.1 14) (U.2.1 23) i)) ∧ h' = h) := by
  refine ct_of (lv := [some (.ref u), some (.int i)]) (by decide +kernel) rfl (fun z => by cases z) (fun _ => rfl) (fun _ => Nat.le_of_ble_eq_true rfl) ?_
  refine aw_iload_n (pc' := 1) eX7_trace_0 rfl rfl ?_
  refine aw_iconst (pc' := 2) (v := 0) eX7_trace_1 rfl (by decide) ?_
  refine aw_bipush (pc' := 4) (v := 20) eX7_trace_2 rfl (by decide) ?_
  refine aw_aload_n (pc' := 5) eX7_trace_4 rfl rfl trivial ?_
  refine aw_Mint (pc' := 8) (kf := 23) hM eX7_trace_5 rfl (by decide) q812 ?_
  refine aw_mmin (pc' := 11) eX7_trace_8 rfl q961 q326 q63 q327 (by omega) ⟨by omega, by omega⟩ (Nat.le_of_ble_eq_true rfl) ?_
  refine aw_iconst (pc' := 12) (v := 1) eX7_trace_11 rfl (by decide) ?_
  refine aw_isub (pc' := 13) eX7_trace_12 rfl ?_
  refine aw_calls (pc' := 16) (nn := 3) (c_X7_isIn (d := d - 1) _ _ _ (by omega)) eX7_trace_13 rfl ⟨q890, q892, q62⟩ q891 ⟨by decide +kernel, by decide +kernel, by decide +kernel⟩ rfl ⟨by omega, by decide⟩ ⟨by omega, by omega⟩ rfl (Nat.le_of_ble_eq_true rfl) (fun v1 h2 hq3 => ?_)
  obtain ⟨rfl, rfl⟩ := hq3
  dsimp only [Option.toList, List.cons_append, List.nil_append]
  refine aw_if_eq (pc' := 19) (tgt := 28) eX7_trace_16 rfl (by decide) (fun c_16 => ?_) (fun c_16 => ?_)
  · refine aw_iconst (pc' := 29) (v := -1) eX7_trace_28 rfl (by decide) ?_
    refine aw_ret (v := some (.int _)) eX7_trace_29 ⟨rfl, rfl⟩ (by omega) (by omega) rfl ?_
    try simp only [zb_eq0, Bool.not_eq_false, Bool.not_eq_true, decide_eq_true_eq, decide_eq_false_iff_not, Decidable.not_not] at c_16
    first | exact ⟨by rw [sTrace, if_pos c_16], rfl⟩ | exact ⟨by rw [sTrace, if_neg (by rw [c_16]; decide)], rfl⟩
  · simp only [zb_eq0, Bool.not_eq_false, Bool.not_eq_true, decide_eq_true_eq, decide_eq_false_iff_not, Decidable.not_not] at c_16
    have hv : vp_in i 20 := by
      rw [vp_in_iff]
      rw [bIn_toInt, show (0 : Int32).toInt = 0 from by decide] at c_16
      refine ⟨c_16.1, ?_⟩
      have c2 := c_16.2
      rw [hr] at c2
      split at c2
      · rename_i z
        have z2 : r < 20 := (nI_ltI hr2 (by omega)).mp z
        cases r with
        | zero => rw [show (nI 0 - 1).toInt = -1 from by decide] at c2; omega
        | succ q => rw [nI_m1, nI_toInt (by omega)] at c2; omega
      · rw [show ((20 : Int32) - 1).toInt = 19 from by decide] at c2; omega
    refine aw_aload_n (pc' := 20) eX7_trace_19 rfl rfl trivial ?_
    refine aw_Mref (pc' := 23) (kf := 22) 14 hM eX7_trace_20 rfl (by decide) rfl q811 ?_
    refine aw_iload_n (pc' := 24) eX7_trace_23 rfl rfl ?_
    refine aw_MaldC (pc' := 25) 14 _ hM eX7_trace_24 rfl (by decide) hv rfl ?_
    refine aw_goto eX7_trace_25 (by decide) (tgt := 29) ?_
    refine aw_ret (v := some (.int _)) eX7_trace_29 ⟨rfl, rfl⟩ (by omega) (by omega) rfl ?_
    try simp only [zb_eq0, Bool.not_eq_false, Bool.not_eq_true, decide_eq_true_eq, decide_eq_false_iff_not, Decidable.not_not] at c_16
    first | exact ⟨by rw [sTrace, if_pos c_16], rfl⟩ | exact ⟨by rw [sTrace, if_neg (by rw [c_16]; decide)], rfl⟩
def sCount (U : MS) (w : Int32) : Int32 := if w = 0 then U.1 1 60 else if w = 1 then U.2.1 8 else if w = 2 then U.1 1 69 else if w = 3 then U.1 1 85 else if w = 4 then U.1 1 106 else if w = 5 then U.2.1 5 else if w = 6 then U.2.1 23 else -2
abbrev mX7_count : MT := (RX7, cX7_count, 2, (some .int), false)
theorem eX7_count_0 : decode mX7_count.2.1 0 = .ok (.iload_n 1, 1) := by decide +kernel
theorem eX7_count_1 : decode mX7_count.2.1 1 = .ok (.tableswitch 90 0 6 #[43, 51, 56, 64, 72, 80, 85], 43) := by decide +kernel
theorem eX7_count_44 : decode mX7_count.2.1 44 = .ok (.aload_n 0, 1) := by decide +kernel
theorem eX7_count_45 : decode mX7_count.2.1 45 = .ok (.getfield 15, 3) := by decide +kernel
theorem eX7_count_48 : decode mX7_count.2.1 48 = .ok (.bipush 60, 2) := by decide +kernel
theorem eX7_count_50 : decode mX7_count.2.1 50 = .ok (.iaload, 1) := by decide +kernel
theorem eX7_count_51 : decode mX7_count.2.1 51 = .ok (.ireturn, 1) := by decide +kernel
theorem eX7_count_52 : decode mX7_count.2.1 52 = .ok (.aload_n 0, 1) := by decide +kernel
theorem eX7_count_53 : decode mX7_count.2.1 53 = .ok (.getfield 177, 3) := by decide +kernel
theorem eX7_count_56 : decode mX7_count.2.1 56 = .ok (.ireturn, 1) := by decide +kernel
theorem eX7_count_57 : decode mX7_count.2.1 57 = .ok (.aload_n 0, 1) := by decide +kernel
theorem eX7_count_58 : decode mX7_count.2.1 58 = .ok (.getfield 15, 3) := by decide +kernel
theorem eX7_count_61 : decode mX7_count.2.1 61 = .ok (.bipush 69, 2) := by decide +kernel
theorem eX7_count_63 : decode mX7_count.2.1 63 = .ok (.iaload, 1) := by decide +kernel
theorem eX7_count_64 : decode mX7_count.2.1 64 = .ok (.ireturn, 1) := by decide +kernel
theorem eX7_count_65 : decode mX7_count.2.1 65 = .ok (.aload_n 0, 1) := by decide +kernel
theorem eX7_count_66 : decode mX7_count.2.1 66 = .ok (.getfield 15, 3) := by decide +kernel
theorem eX7_count_69 : decode mX7_count.2.1 69 = .ok (.bipush 85, 2) := by decide +kernel
theorem eX7_count_71 : decode mX7_count.2.1 71 = .ok (.iaload, 1) := by decide +kernel
theorem eX7_count_72 : decode mX7_count.2.1 72 = .ok (.ireturn, 1) := by decide +kernel
theorem eX7_count_73 : decode mX7_count.2.1 73 = .ok (.aload_n 0, 1) := by decide +kernel
theorem eX7_count_74 : decode mX7_count.2.1 74 = .ok (.getfield 15, 3) := by decide +kernel
theorem eX7_count_77 : decode mX7_count.2.1 77 = .ok (.bipush 106, 2) := by decide +kernel
theorem eX7_count_79 : decode mX7_count.2.1 79 = .ok (.iaload, 1) := by decide +kernel
theorem eX7_count_80 : decode mX7_count.2.1 80 = .ok (.ireturn, 1) := by decide +kernel
theorem eX7_count_81 : decode mX7_count.2.1 81 = .ok (.aload_n 0, 1) := by decide +kernel
theorem eX7_count_82 : decode mX7_count.2.1 82 = .ok (.getfield 123, 3) := by decide +kernel
theorem eX7_count_85 : decode mX7_count.2.1 85 = .ok (.ireturn, 1) := by decide +kernel
theorem eX7_count_86 : decode mX7_count.2.1 86 = .ok (.aload_n 0, 1) := by decide +kernel
theorem eX7_count_87 : decode mX7_count.2.1 87 = .ok (.getfield 236, 3) := by decide +kernel
theorem eX7_count_90 : decode mX7_count.2.1 90 = .ok (.ireturn, 1) := by decide +kernel
theorem eX7_count_91 : decode mX7_count.2.1 91 = .ok (.bipush (-2), 2) := by decide +kernel
theorem eX7_count_93 : decode mX7_count.2.1 93 = .ok (.ireturn, 1) := by decide +kernel
theorem c_X7_count (hM : MAt h u U) (w : Int32) (hd : 0 ≤ d) : Ct l G mX7_count yX7_count d 0 0 [.ref u, .int w] h (fun r h' => r = some (.int (sCount U w)) ∧ h' = h) := by
  refine ct_of (lv := [some (.ref u), some (.int w)]) (by decide +kernel) rfl (fun z => by cases z) (fun _ => rfl) (fun _ => Nat.le_of_ble_eq_true rfl) ?_
  refine aw_iload_n (pc' := 1) eX7_count_0 rfl rfl ?_
  refine aw_tsw (v := 0) (tgt := 44) eX7_count_1 (by decide) (by decide) rfl (by decide) (fun c_1 => ?_) (fun n_1_0 => ?_)
  · refine aw_aload_n (pc' := 45) eX7_count_44 rfl rfl trivial ?_
    refine aw_Mref (pc' := 48) (kf := 0) 1 hM eX7_count_45 rfl (by decide) rfl q789 ?_
    refine aw_bipush (pc' := 50) (v := 60) eX7_count_48 rfl (by decide) ?_
    refine aw_MaldC (pc' := 51) 1 60 hM eX7_count_50 rfl (by decide) (by unfold vp_in; decide) (by decide) ?_
    refine aw_ret (v := some (.int _)) eX7_count_51 ⟨rfl, rfl⟩ (by omega) (by omega) rfl ?_
    exact ⟨by simp [sCount, c_1], rfl⟩
  refine aw_tsw (v := 1) (tgt := 52) eX7_count_1 (by decide) (by decide) rfl (by decide) (fun c_1 => ?_) (fun n_1_1 => ?_)
  · refine aw_aload_n (pc' := 53) eX7_count_52 rfl rfl trivial ?_
    refine aw_Mint (pc' := 56) (kf := 8) hM eX7_count_53 rfl (by decide) q797 ?_
    refine aw_ret (v := some (.int _)) eX7_count_56 ⟨rfl, rfl⟩ (by omega) (by omega) rfl ?_
    exact ⟨by simp [sCount, c_1], rfl⟩
  refine aw_tsw (v := 2) (tgt := 57) eX7_count_1 (by decide) (by decide) rfl (by decide) (fun c_1 => ?_) (fun n_1_2 => ?_)
  · refine aw_aload_n (pc' := 58) eX7_count_57 rfl rfl trivial ?_
    refine aw_Mref (pc' := 61) (kf := 0) 1 hM eX7_count_58 rfl (by decide) rfl q789 ?_
    refine aw_bipush (pc' := 63) (v := 69) eX7_count_61 rfl (by decide) ?_
    refine aw_MaldC (pc' := 64) 1 69 hM eX7_count_63 rfl (by decide) (by unfold vp_in; decide) (by decide) ?_
    refine aw_ret (v := some (.int _)) eX7_count_64 ⟨rfl, rfl⟩ (by omega) (by omega) rfl ?_
    exact ⟨by simp [sCount, c_1], rfl⟩
  refine aw_tsw (v := 3) (tgt := 65) eX7_count_1 (by decide) (by decide) rfl (by decide) (fun c_1 => ?_) (fun n_1_3 => ?_)
  · refine aw_aload_n (pc' := 66) eX7_count_65 rfl rfl trivial ?_
    refine aw_Mref (pc' := 69) (kf := 0) 1 hM eX7_count_66 rfl (by decide) rfl q789 ?_
    refine aw_bipush (pc' := 71) (v := 85) eX7_count_69 rfl (by decide) ?_
    refine aw_MaldC (pc' := 72) 1 85 hM eX7_count_71 rfl (by decide) (by unfold vp_in; decide) (by decide) ?_
    refine aw_ret (v := some (.int _)) eX7_count_72 ⟨rfl, rfl⟩ (by omega) (by omega) rfl ?_
    exact ⟨by simp [sCount, c_1], rfl⟩
  refine aw_tsw (v := 4) (tgt := 73) eX7_count_1 (by decide) (by decide) rfl (by decide) (fun c_1 => ?_) (fun n_1_4 => ?_)
  · refine aw_aload_n (pc' := 74) eX7_count_73 rfl rfl trivial ?_
    refine aw_Mref (pc' := 77) (kf := 0) 1 hM eX7_count_74 rfl (by decide) rfl q789 ?_
    refine aw_bipush (pc' := 79) (v := 106) eX7_count_77 rfl (by decide) ?_
    refine aw_MaldC (pc' := 80) 1 106 hM eX7_count_79 rfl (by decide) (by unfold vp_in; decide) (by decide) ?_
    refine aw_ret (v := some (.int _)) eX7_count_80 ⟨rfl, rfl⟩ (by omega) (by omega) rfl ?_
    exact ⟨by simp [sCount, c_1], rfl⟩
  refine aw_tsw (v := 5) (tgt := 81) eX7_count_1 (by decide) (by decide) rfl (by decide) (fun c_1 => ?_) (fun n_1_5 => ?_)
  · refine aw_aload_n (pc' := 82) eX7_count_81 rfl rfl trivial ?_
    refine aw_Mint (pc' := 85) (kf := 5) hM eX7_count_82 rfl (by decide) q794 ?_
    refine aw_ret (v := some (.int _)) eX7_count_85 ⟨rfl, rfl⟩ (by omega) (by omega) rfl ?_
    exact ⟨by simp [sCount, c_1], rfl⟩
  refine aw_tsw (v := 6) (tgt := 86) eX7_count_1 (by decide) (by decide) rfl (by decide) (fun c_1 => ?_) (fun n_1_6 => ?_)
  · refine aw_aload_n (pc' := 87) eX7_count_86 rfl rfl trivial ?_
    refine aw_Mint (pc' := 90) (kf := 23) hM eX7_count_87 rfl (by decide) q812 ?_
    refine aw_ret (v := some (.int _)) eX7_count_90 ⟨rfl, rfl⟩ (by omega) (by omega) rfl ?_
    exact ⟨by simp [sCount, c_1], rfl⟩
  refine aw_tswo (tgt := 91) eX7_count_1 (by have g0 := zne n_1_0 (show ((0 : Int32)).toInt = 0 by decide); have g1 := zne n_1_1 (show ((1 : Int32)).toInt = 1 by decide); have g2 := zne n_1_2 (show ((2 : Int32)).toInt = 2 by decide); have g3 := zne n_1_3 (show ((3 : Int32)).toInt = 3 by decide); have g4 := zne n_1_4 (show ((4 : Int32)).toInt = 4 by decide); have g5 := zne n_1_5 (show ((5 : Int32)).toInt = 5 by decide); have g6 := zne n_1_6 (show ((6 : Int32)).toInt = 6 by decide); omega) (by decide) ?_
  refine aw_bipush (pc' := 93) (v := -2) eX7_count_91 rfl (by decide) ?_
  refine aw_ret (v := some (.int _)) eX7_count_93 ⟨rfl, rfl⟩ (by omega) (by omega) rfl ?_
  exact ⟨by simp [sCount, n_1_0, n_1_1, n_1_2, n_1_3, n_1_4, n_1_5, n_1_6], rfl⟩
def sFeed (U : MS) (a : Nat) (c : Int32) : Int32 × MS := if bIn c 0 127 = true then if nI a = 100 then (-4, U) else (nI a + 1, msc (mup U 4 a c) 5 (nI a + 1)) else (-2, U)
abbrev mX7_feed : MT := (RX7, cX7_feed, 2, (some .int), false)
theorem eX7_feed_0 : decode mX7_feed.2.1 0 = .ok (.iload_n 1, 1) := by decide +kernel
theorem eX7_feed_1 : decode mX7_feed.2.1 1 = .ok (.iconst 0, 1) := by decide +kernel
theorem eX7_feed_2 : decode mX7_feed.2.1 2 = .ok (.bipush 127, 2) := by decide +kernel
theorem eX7_feed_4 : decode mX7_feed.2.1 4 = .ok (.invokestatic 80, 3) := by decide +kernel
theorem eX7_feed_7 : decode mX7_feed.2.1 7 = .ok (.ifCond .ne 6, 3) := by decide +kernel
theorem eX7_feed_10 : decode mX7_feed.2.1 10 = .ok (.bipush (-2), 2) := by decide +kernel
theorem eX7_feed_12 : decode mX7_feed.2.1 12 = .ok (.ireturn, 1) := by decide +kernel
theorem eX7_feed_13 : decode mX7_feed.2.1 13 = .ok (.aload_n 0, 1) := by decide +kernel
theorem eX7_feed_14 : decode mX7_feed.2.1 14 = .ok (.getfield 123, 3) := by decide +kernel
theorem eX7_feed_17 : decode mX7_feed.2.1 17 = .ok (.bipush 100, 2) := by decide +kernel
theorem eX7_feed_19 : decode mX7_feed.2.1 19 = .ok (.if_icmp .ne 6, 3) := by decide +kernel
theorem eX7_feed_22 : decode mX7_feed.2.1 22 = .ok (.bipush (-4), 2) := by decide +kernel
theorem eX7_feed_24 : decode mX7_feed.2.1 24 = .ok (.ireturn, 1) := by decide +kernel
theorem eX7_feed_25 : decode mX7_feed.2.1 25 = .ok (.aload_n 0, 1) := by decide +kernel
theorem eX7_feed_26 : decode mX7_feed.2.1 26 = .ok (.getfield 25, 3) := by decide +kernel
theorem eX7_feed_29 : decode mX7_feed.2.1 29 = .ok (.aload_n 0, 1) := by decide +kernel
theorem eX7_feed_30 : decode mX7_feed.2.1 30 = .ok (.getfield 123, 3) := by decide +kernel
theorem eX7_feed_33 : decode mX7_feed.2.1 33 = .ok (.iload_n 1, 1) := by decide +kernel
theorem eX7_feed_34 : decode mX7_feed.2.1 34 = .ok (.iastore, 1) := by decide +kernel
theorem eX7_feed_35 : decode mX7_feed.2.1 35 = .ok (.aload_n 0, 1) := by decide +kernel
theorem eX7_feed_36 : decode mX7_feed.2.1 36 = .ok (.dup, 1) := by decide +kernel
theorem eX7_feed_37 : decode mX7_feed.2.1 37 = .ok (.getfield 123, 3) := by decide +kernel
theorem eX7_feed_40 : decode mX7_feed.2.1 40 = .ok (.iconst 1, 1) := by decide +kernel
theorem eX7_feed_41 : decode mX7_feed.2.1 41 = .ok (.iadd, 1) := by decide +kernel
theorem eX7_feed_42 : decode mX7_feed.2.1 42 = .ok (.putfield 123, 3) := by decide +kernel
theorem eX7_feed_45 : decode mX7_feed.2.1 45 = .ok (.aload_n 0, 1) := by decide +kernel
theorem eX7_feed_46 : decode mX7_feed.2.1 46 = .ok (.getfield 123, 3) := by decide +kernel
theorem eX7_feed_49 : decode mX7_feed.2.1 49 = .ok (.ireturn, 1) := by decide +kernel
theorem c_X7_feed (hM : MAt h u U) {a : Nat} (ha : a ≤ 100) (hs : U.2.1 5 = nI a) (c : Int32) (hd : 1 ≤ d) : Ct l G mX7_feed yX7_feed d 0 0 [.ref u, .int c] h (fun r h' => r = some (.int (sFeed U a c).1) ∧ MAt h' u (sFeed U a c).2 ∧ Same u 19 h h') := by
  refine ct_of (lv := [some (.ref u), some (.int c)]) (by decide +kernel) rfl (fun z => by cases z) (fun _ => rfl) (fun _ => Nat.le_of_ble_eq_true rfl) ?_
  refine aw_iload_n (pc' := 1) eX7_feed_0 rfl rfl ?_
  refine aw_iconst (pc' := 2) (v := 0) eX7_feed_1 rfl (by decide) ?_
  refine aw_bipush (pc' := 4) (v := 127) eX7_feed_2 rfl (by decide) ?_
  refine aw_calls (pc' := 7) (nn := 3) (c_X7_isIn (d := d - 1) _ _ _ (by omega)) eX7_feed_4 rfl ⟨q890, q892, q62⟩ q891 ⟨by decide +kernel, by decide +kernel, by decide +kernel⟩ rfl ⟨by omega, by decide⟩ ⟨by omega, by omega⟩ rfl (Nat.le_of_ble_eq_true rfl) (fun v1 h2 hq3 => ?_)
  obtain ⟨rfl, rfl⟩ := hq3
  dsimp only [Option.toList, List.cons_append, List.nil_append]
  refine aw_if_ne (pc' := 10) (tgt := 13) eX7_feed_7 rfl (by decide) (fun c_7 => ?_) (fun c_7 => ?_)
  · refine aw_aload_n (pc' := 14) eX7_feed_13 rfl rfl trivial ?_
    refine aw_Mint (pc' := 17) (kf := 5) hM eX7_feed_14 rfl (by decide) q794 ?_
    refine aw_bipush (pc' := 19) (v := 100) eX7_feed_17 rfl (by decide) ?_
    refine aw_icmp_ne (pc' := 22) (tgt := 25) eX7_feed_19 rfl (by decide) (fun c_19 => ?_) (fun c_19 => ?_)
    · rw [hs] at c_19
      have ha5 : a < 100 := by
        rcases Nat.lt_or_ge a 100 with z | z
        · exact z
        · exact absurd (by rw [show a = 100 by omega]; rfl) c_19
      refine aw_aload_n (pc' := 26) eX7_feed_25 rfl rfl trivial ?_
      refine aw_Mref (pc' := 29) (kf := 4) 4 hM eX7_feed_26 rfl (by decide) rfl q793 ?_
      refine aw_aload_n (pc' := 30) eX7_feed_29 rfl rfl trivial ?_
      refine aw_Mint (pc' := 33) (kf := 5) hM eX7_feed_30 rfl (by decide) q794 ?_
      refine aw_iload_n (pc' := 34) eX7_feed_33 rfl rfl ?_
      refine aw_MastC (pc' := 35) 4 a hM eX7_feed_34 rfl (by decide) (show vp_in _ 100 by rw [hs]; exact vp_in_nI ha5 (by omega)) (by rw [hs]; exact nI_clamp (by omega)) (fun h6 hM4 hs5 => ?_)
      refine aw_aload_n (pc' := 36) eX7_feed_35 rfl rfl trivial ?_
      refine aw_dup (pc' := 37) eX7_feed_36 rfl rfl ?_
      refine aw_Mint (pc' := 40) (kf := 5) hM4 eX7_feed_37 rfl (by decide) q794 ?_
      refine aw_iconst (pc' := 41) (v := 1) eX7_feed_40 rfl (by decide) ?_
      refine aw_iadd (pc' := 42) eX7_feed_41 rfl ?_
      refine aw_Mput (pc' := 45) 5 hM4 eX7_feed_42 rfl (by decide) (fun z => absurd z (by decide)) q794 (fun h9 hM7 hs8 => ?_)
      have hT10 := hs5.tr hs8
      refine aw_aload_n (pc' := 46) eX7_feed_45 rfl rfl trivial ?_
      refine aw_Mint (pc' := 49) (kf := 5) hM7 eX7_feed_46 rfl (by decide) q794 ?_
      refine aw_ret (v := some (.int _)) eX7_feed_49 ⟨rfl, rfl⟩ (by omega) (by omega) rfl ?_
      try simp only [zb_eq0, Bool.not_eq_false, Bool.not_eq_true, decide_eq_true_eq, decide_eq_false_iff_not, Decidable.not_not] at c_7
      have hM9 := hM7
      refine ⟨?_, ?_, hT10⟩
      · rw [sFeed, if_pos c_7, if_neg c_19]
        show some (Value.int (U.2.1 5 + 1)) = _
        rw [hs]
      · rw [sFeed, if_pos c_7, if_neg c_19]
        have e : (mup U 4 a c).2.1 5 = nI a := hs
        rw [e] at hM9
        exact hM9
    · refine aw_bipush (pc' := 24) (v := -4) eX7_feed_22 rfl (by decide) ?_
      refine aw_ret (v := some (.int _)) eX7_feed_24 ⟨rfl, rfl⟩ (by omega) (by omega) rfl ?_
      try simp only [zb_eq0, Bool.not_eq_false, Bool.not_eq_true, decide_eq_true_eq, decide_eq_false_iff_not, Decidable.not_not] at c_7
      try rw [hs] at c_19
      have hM9 := hM
      first
        | exact ⟨by rw [sFeed, if_neg (by rw [c_7]; decide)], by rw [sFeed, if_neg (by rw [c_7]; decide)]; exact hM9, Same.rf⟩
        | exact ⟨by rw [sFeed, if_pos c_7, if_pos c_19], by rw [sFeed, if_pos c_7, if_pos c_19]; exact hM9, Same.rf⟩
  · refine aw_bipush (pc' := 12) (v := -2) eX7_feed_10 rfl (by decide) ?_
    refine aw_ret (v := some (.int _)) eX7_feed_12 ⟨rfl, rfl⟩ (by omega) (by omega) rfl ?_
    try simp only [zb_eq0, Bool.not_eq_false, Bool.not_eq_true, decide_eq_true_eq, decide_eq_false_iff_not, Decidable.not_not] at c_7
    try rw [hs] at c_19
    have hM9 := hM
    first
      | exact ⟨by rw [sFeed, if_neg (by rw [c_7]; decide)], by rw [sFeed, if_neg (by rw [c_7]; decide)]; exact hM9, Same.rf⟩
      | exact ⟨by rw [sFeed, if_pos c_7, if_pos c_19], by rw [sFeed, if_pos c_7, if_pos c_19]; exact hM9, Same.rf⟩
end M5
end
section
/-! the model's tapes -/
section M6
variable {l : Launch} {G : GT} {d u : Nat} {h : Hp} {U : MS} {Q : Option Value → Hp → Prop}
/-- the tapes: sorts, lengths, items -/
def mT (U : MS) : Prop := ∀ t, t < 6 → (∃ n, n ≤ 60 ∧ U.1 16 t = nI n) ∧ (U.1 15 t = -1 ∨ ∃ s, s < 5 ∧ U.1 15 t = nI s)
theorem ix60 {t i : Nat} (h : 60 * t + i < 360) : (60 * nI t + nI i).toNatClampNeg = 60 * t + i ∧ vp_in (60 * nI t + nI i) 360 := by
  have e : 60 * nI t + nI i = nI (60 * t + i) := nI_muladd 60 t i
  rw [e]
  exact ⟨nI_clamp (by omega), vp_in_nI h (by omega)⟩

def sRead (U : MS) (t i : Int32) : Int64 := if bIn t 0 5 = true ∧ bIn i 0 (U.1 16 t.toNatClampNeg - 1) = true then U.2.2 17 (60 * t.toNatClampNeg + i.toNatClampNeg) else -9223372036854775808
abbrev mX7_read : MT := (RX7, cX7_read, 3, (some .long), false)
theorem eX7_read_0 : decode mX7_read.2.1 0 = .ok (.iload_n 1, 1) := by decide +kernel
theorem eX7_read_1 : decode mX7_read.2.1 1 = .ok (.invokestatic 249, 3) := by decide +kernel
theorem eX7_read_4 : decode mX7_read.2.1 4 = .ok (.ifCond .eq 33, 3) := by decide +kernel
theorem eX7_read_7 : decode mX7_read.2.1 7 = .ok (.iload_n 2, 1) := by decide +kernel
theorem eX7_read_8 : decode mX7_read.2.1 8 = .ok (.iconst 0, 1) := by decide +kernel
theorem eX7_read_9 : decode mX7_read.2.1 9 = .ok (.aload_n 0, 1) := by decide +kernel
theorem eX7_read_10 : decode mX7_read.2.1 10 = .ok (.getfield 62, 3) := by decide +kernel
theorem eX7_read_13 : decode mX7_read.2.1 13 = .ok (.iload_n 1, 1) := by decide +kernel
theorem eX7_read_14 : decode mX7_read.2.1 14 = .ok (.iaload, 1) := by decide +kernel
theorem eX7_read_15 : decode mX7_read.2.1 15 = .ok (.iconst 1, 1) := by decide +kernel
theorem eX7_read_16 : decode mX7_read.2.1 16 = .ok (.isub, 1) := by decide +kernel
theorem eX7_read_17 : decode mX7_read.2.1 17 = .ok (.invokestatic 80, 3) := by decide +kernel
theorem eX7_read_20 : decode mX7_read.2.1 20 = .ok (.ifCond .eq 17, 3) := by decide +kernel
theorem eX7_read_23 : decode mX7_read.2.1 23 = .ok (.aload_n 0, 1) := by decide +kernel
theorem eX7_read_24 : decode mX7_read.2.1 24 = .ok (.getfield 65, 3) := by decide +kernel
theorem eX7_read_27 : decode mX7_read.2.1 27 = .ok (.bipush 60, 2) := by decide +kernel
theorem eX7_read_29 : decode mX7_read.2.1 29 = .ok (.iload_n 1, 1) := by decide +kernel
theorem eX7_read_30 : decode mX7_read.2.1 30 = .ok (.imul, 1) := by decide +kernel
theorem eX7_read_31 : decode mX7_read.2.1 31 = .ok (.iload_n 2, 1) := by decide +kernel
theorem eX7_read_32 : decode mX7_read.2.1 32 = .ok (.iadd, 1) := by decide +kernel
theorem eX7_read_33 : decode mX7_read.2.1 33 = .ok (.laload, 1) := by decide +kernel
theorem eX7_read_34 : decode mX7_read.2.1 34 = .ok (.goto 6, 3) := by decide +kernel
theorem eX7_read_37 : decode mX7_read.2.1 37 = .ok (.ldc2_w 228, 3) := by decide +kernel
theorem eX7_read_40 : decode mX7_read.2.1 40 = .ok (.lreturn, 1) := by decide +kernel
theorem c_X7_read (hM : MAt h u U) (hT : mT U) (t i : Int32) (hd : 2 ≤ d) : Ct l G mX7_read yX7_read d 0 0 [.ref u, .int t, .int i] h (fun r h' => r = some (.long (sRead U t i)) ∧ h' = h) := by
  refine ct_of (lv := [some (.ref u), some (.int t), some (.int i)]) (by decide +kernel) rfl (fun z => by cases z) (fun _ => rfl) (fun _ => Nat.le_of_ble_eq_true rfl) ?_
  refine aw_iload_n (pc' := 1) eX7_read_0 rfl rfl ?_
  refine aw_calls (pc' := 4) (nn := 1) (c_X7_isTape (d := d - 1) _ (by omega)) eX7_read_1 rfl ⟨q1146, q1148, q62⟩ q1147 ⟨by decide +kernel, by decide +kernel, by decide +kernel⟩ rfl ⟨by omega, by decide⟩ ⟨by omega, by omega⟩ rfl (Nat.le_of_ble_eq_true rfl) (fun v1 h2 hq3 => ?_)
  obtain ⟨rfl, rfl⟩ := hq3
  dsimp only [Option.toList, List.cons_append, List.nil_append]
  refine aw_if_eq (pc' := 7) (tgt := 37) eX7_read_4 rfl (by decide) (fun c_4 => ?_) (fun c_4 => ?_)
  · refine aw_ldc2 (pc' := 40) eX7_read_37 rfl q1086 ?_
    refine aw_ret (v := some (.long _)) eX7_read_40 ⟨rfl, rfl⟩ (by omega) (by omega) rfl ?_
    try simp only [zb_eq0, Bool.not_eq_false, Bool.not_eq_true, decide_eq_true_eq, decide_eq_false_iff_not, Decidable.not_not] at c_4
    exact ⟨by simp [sRead, c_4], rfl⟩
  · simp only [zb_eq0, Bool.not_eq_false, Bool.not_eq_true, decide_eq_true_eq, decide_eq_false_iff_not, Decidable.not_not] at c_4
    obtain ⟨tt, htt, rfl⟩ := (bIn_lit (N := 5) (by omega)).mp c_4
    have clt : (nI tt).toNatClampNeg = tt := nI_clamp (by omega)
    have vt : vp_in (nI tt) 6 := vp_in_nI (by omega) (by omega)
    obtain ⟨⟨n, hn, en⟩, hso⟩ := hT tt (by omega)
    refine aw_iload_n (pc' := 8) eX7_read_7 rfl rfl ?_
    refine aw_iconst (pc' := 9) (v := 0) eX7_read_8 rfl (by decide) ?_
    refine aw_aload_n (pc' := 10) eX7_read_9 rfl rfl trivial ?_
    refine aw_Mref (pc' := 13) (kf := 25) 16 hM eX7_read_10 rfl (by decide) rfl q814 ?_
    refine aw_iload_n (pc' := 14) eX7_read_13 rfl rfl ?_
    refine aw_MaldC (pc' := 15) 16 tt hM eX7_read_14 rfl (by decide) vt clt ?_
    refine aw_iconst (pc' := 16) (v := 1) eX7_read_15 rfl (by decide) ?_
    refine aw_isub (pc' := 17) eX7_read_16 rfl ?_
    refine aw_calls (pc' := 20) (nn := 3) (c_X7_isIn (d := d - 1) _ _ _ (by omega)) eX7_read_17 rfl ⟨q890, q892, q62⟩ q891 ⟨by decide +kernel, by decide +kernel, by decide +kernel⟩ rfl ⟨by omega, by decide⟩ ⟨by omega, by omega⟩ rfl (Nat.le_of_ble_eq_true rfl) (fun v4 h5 hq6 => ?_)
    obtain ⟨rfl, rfl⟩ := hq6
    dsimp only [Option.toList, List.cons_append, List.nil_append]
    refine aw_if_eq (pc' := 23) (tgt := 37) eX7_read_20 rfl (by decide) (fun c_20 => ?_) (fun c_20 => ?_)
    · refine aw_ldc2 (pc' := 40) eX7_read_37 rfl q1086 ?_
      refine aw_ret (v := some (.long _)) eX7_read_40 ⟨rfl, rfl⟩ (by omega) (by omega) rfl ?_
      first
        | exact ⟨by rw [sRead, if_pos ⟨c_4, by rw [clt, en]; exact c_20⟩, clt, clj, ← hx60], rfl⟩
        | (simp only [zb_eq0, Bool.not_eq_false, Bool.not_eq_true, decide_eq_true_eq, decide_eq_false_iff_not, Decidable.not_not, en] at c_20; exact ⟨by rw [sRead, if_neg (by rw [clt, en, c_20]; simp)], rfl⟩)
    · simp only [zb_eq0, Bool.not_eq_false, Bool.not_eq_true, decide_eq_true_eq, decide_eq_false_iff_not, Decidable.not_not, en] at c_20
      have hcI : ∃ j, j < n ∧ i = nI j := by
        have z := c_20
        cases n with
        | zero =>
          rw [bIn_toInt, show (nI 0 - 1).toInt = -1 from by decide, show (0 : Int32).toInt = 0 from by decide] at z
          omega
        | succ k =>
          rw [nI_m1, bIn_lit (by omega)] at z
          obtain ⟨j, h1, h2⟩ := z
          exact ⟨j, by omega, h2⟩
      obtain ⟨j, hj, ej⟩ := hcI
      have clj : i.toNatClampNeg = j := by rw [ej]; exact nI_clamp (by omega)
      have hx60 : (60 * nI tt + i).toNatClampNeg = 60 * tt + j := by rw [ej]; exact (ix60 (by omega)).1
      have hv60 : vp_in (60 * nI tt + i) 360 := by rw [ej]; exact (ix60 (by omega)).2
      refine aw_aload_n (pc' := 24) eX7_read_23 rfl rfl trivial ?_
      refine aw_Mref (pc' := 27) (kf := 26) 17 hM eX7_read_24 rfl (by decide) rfl q815 ?_
      refine aw_bipush (pc' := 29) (v := 60) eX7_read_27 rfl (by decide) ?_
      refine aw_iload_n (pc' := 30) eX7_read_29 rfl rfl ?_
      refine aw_imul (pc' := 31) eX7_read_30 rfl ?_
      refine aw_iload_n (pc' := 32) eX7_read_31 rfl rfl ?_
      refine aw_iadd (pc' := 33) eX7_read_32 rfl ?_
      refine aw_Mjld (pc' := 34) 17 hM eX7_read_33 rfl (by decide) hv60 ?_
      refine aw_goto eX7_read_34 (by decide) (tgt := 40) ?_
      refine aw_ret (v := some (.long _)) eX7_read_40 ⟨rfl, rfl⟩ (by omega) (by omega) rfl ?_
      first
        | exact ⟨by rw [sRead, if_pos ⟨c_4, by rw [clt, en]; exact c_20⟩, clt, clj, ← hx60], rfl⟩
        | (simp only [zb_eq0, Bool.not_eq_false, Bool.not_eq_true, decide_eq_true_eq, decide_eq_false_iff_not, Decidable.not_not, en] at c_20; exact ⟨by rw [sRead, if_neg (by rw [clt, en, c_20]; simp)], rfl⟩)
/-- what an item keeps of a number -/
def sFit (s : Int32) (v : Int64) : Int64 := if s = 0 then v.toInt32.toInt8.toInt32.toInt64 else if s = 1 then v.toInt32.toInt16.toInt32.toInt64 else if s = 2 then v.toInt32.toInt64 else if s = 3 then v else if lg_cmp v 0 = 0 then 0 else 1
def sItem (U : MS) (t i : Int32) (v : Int64) : Int32 × MS :=
  if bIn t 0 5 = true then if U.1 15 t.toNatClampNeg < 0 then (-11, U) else if bIn i 0 (U.1 16 t.toNatClampNeg - 1) = true then (1, mupL U 17 (60 * t.toNatClampNeg + i.toNatClampNeg) (sFit (U.1 15 t.toNatClampNeg) v)) else (-13, U) else (-1, U)
abbrev mX7_item : MT := (RX7, cX7_item, 6, (some .int), false)
theorem eX7_item_0 : decode mX7_item.2.1 0 = .ok (.iload_n 1, 1) := by decide +kernel
theorem eX7_item_1 : decode mX7_item.2.1 1 = .ok (.invokestatic 249, 3) := by decide +kernel
theorem eX7_item_4 : decode mX7_item.2.1 4 = .ok (.ifCond .ne 5, 3) := by decide +kernel
theorem eX7_item_7 : decode mX7_item.2.1 7 = .ok (.iconst (-1), 1) := by decide +kernel
theorem eX7_item_8 : decode mX7_item.2.1 8 = .ok (.ireturn, 1) := by decide +kernel
theorem eX7_item_9 : decode mX7_item.2.1 9 = .ok (.aload_n 0, 1) := by decide +kernel
theorem eX7_item_10 : decode mX7_item.2.1 10 = .ok (.getfield 59, 3) := by decide +kernel
theorem eX7_item_13 : decode mX7_item.2.1 13 = .ok (.iload_n 1, 1) := by decide +kernel
theorem eX7_item_14 : decode mX7_item.2.1 14 = .ok (.iaload, 1) := by decide +kernel
theorem eX7_item_15 : decode mX7_item.2.1 15 = .ok (.ifCond .ge 6, 3) := by decide +kernel
theorem eX7_item_18 : decode mX7_item.2.1 18 = .ok (.bipush (-11), 2) := by decide +kernel
theorem eX7_item_20 : decode mX7_item.2.1 20 = .ok (.ireturn, 1) := by decide +kernel
theorem eX7_item_21 : decode mX7_item.2.1 21 = .ok (.iload_n 2, 1) := by decide +kernel
theorem eX7_item_22 : decode mX7_item.2.1 22 = .ok (.iconst 0, 1) := by decide +kernel
theorem eX7_item_23 : decode mX7_item.2.1 23 = .ok (.aload_n 0, 1) := by decide +kernel
theorem eX7_item_24 : decode mX7_item.2.1 24 = .ok (.getfield 62, 3) := by decide +kernel
theorem eX7_item_27 : decode mX7_item.2.1 27 = .ok (.iload_n 1, 1) := by decide +kernel
theorem eX7_item_28 : decode mX7_item.2.1 28 = .ok (.iaload, 1) := by decide +kernel
theorem eX7_item_29 : decode mX7_item.2.1 29 = .ok (.iconst 1, 1) := by decide +kernel
theorem eX7_item_30 : decode mX7_item.2.1 30 = .ok (.isub, 1) := by decide +kernel
theorem eX7_item_31 : decode mX7_item.2.1 31 = .ok (.invokestatic 80, 3) := by decide +kernel
theorem eX7_item_34 : decode mX7_item.2.1 34 = .ok (.ifCond .ne 6, 3) := by decide +kernel
theorem eX7_item_37 : decode mX7_item.2.1 37 = .ok (.bipush (-13), 2) := by decide +kernel
theorem eX7_item_39 : decode mX7_item.2.1 39 = .ok (.ireturn, 1) := by decide +kernel
theorem eX7_item_40 : decode mX7_item.2.1 40 = .ok (.aload_n 0, 1) := by decide +kernel
theorem eX7_item_41 : decode mX7_item.2.1 41 = .ok (.getfield 59, 3) := by decide +kernel
theorem eX7_item_44 : decode mX7_item.2.1 44 = .ok (.iload_n 1, 1) := by decide +kernel
theorem eX7_item_45 : decode mX7_item.2.1 45 = .ok (.iaload, 1) := by decide +kernel
theorem eX7_item_46 : decode mX7_item.2.1 46 = .ok (.istore 5, 2) := by decide +kernel
theorem eX7_item_48 : decode mX7_item.2.1 48 = .ok (.aload_n 0, 1) := by decide +kernel
theorem eX7_item_49 : decode mX7_item.2.1 49 = .ok (.getfield 65, 3) := by decide +kernel
theorem eX7_item_52 : decode mX7_item.2.1 52 = .ok (.bipush 60, 2) := by decide +kernel
theorem eX7_item_54 : decode mX7_item.2.1 54 = .ok (.iload_n 1, 1) := by decide +kernel
theorem eX7_item_55 : decode mX7_item.2.1 55 = .ok (.imul, 1) := by decide +kernel
theorem eX7_item_56 : decode mX7_item.2.1 56 = .ok (.iload_n 2, 1) := by decide +kernel
theorem eX7_item_57 : decode mX7_item.2.1 57 = .ok (.iadd, 1) := by decide +kernel
theorem eX7_item_58 : decode mX7_item.2.1 58 = .ok (.iload 5, 2) := by decide +kernel
theorem eX7_item_60 : decode mX7_item.2.1 60 = .ok (.ifCond .ne 10, 3) := by decide +kernel
theorem eX7_item_63 : decode mX7_item.2.1 63 = .ok (.lload_n 3, 1) := by decide +kernel
theorem eX7_item_64 : decode mX7_item.2.1 64 = .ok (.l2i, 1) := by decide +kernel
theorem eX7_item_65 : decode mX7_item.2.1 65 = .ok (.i2b, 1) := by decide +kernel
theorem eX7_item_66 : decode mX7_item.2.1 66 = .ok (.i2l, 1) := by decide +kernel
theorem eX7_item_67 : decode mX7_item.2.1 67 = .ok (.goto 49, 3) := by decide +kernel
theorem eX7_item_70 : decode mX7_item.2.1 70 = .ok (.iload 5, 2) := by decide +kernel
theorem eX7_item_72 : decode mX7_item.2.1 72 = .ok (.iconst 1, 1) := by decide +kernel
theorem eX7_item_73 : decode mX7_item.2.1 73 = .ok (.if_icmp .ne 10, 3) := by decide +kernel
theorem eX7_item_76 : decode mX7_item.2.1 76 = .ok (.lload_n 3, 1) := by decide +kernel
theorem eX7_item_77 : decode mX7_item.2.1 77 = .ok (.l2i, 1) := by decide +kernel
theorem eX7_item_78 : decode mX7_item.2.1 78 = .ok (.i2s, 1) := by decide +kernel
theorem eX7_item_79 : decode mX7_item.2.1 79 = .ok (.i2l, 1) := by decide +kernel
theorem eX7_item_80 : decode mX7_item.2.1 80 = .ok (.goto 36, 3) := by decide +kernel
theorem eX7_item_83 : decode mX7_item.2.1 83 = .ok (.iload 5, 2) := by decide +kernel
theorem eX7_item_85 : decode mX7_item.2.1 85 = .ok (.iconst 2, 1) := by decide +kernel
theorem eX7_item_86 : decode mX7_item.2.1 86 = .ok (.if_icmp .ne 9, 3) := by decide +kernel
theorem eX7_item_89 : decode mX7_item.2.1 89 = .ok (.lload_n 3, 1) := by decide +kernel
theorem eX7_item_90 : decode mX7_item.2.1 90 = .ok (.l2i, 1) := by decide +kernel
theorem eX7_item_91 : decode mX7_item.2.1 91 = .ok (.i2l, 1) := by decide +kernel
theorem eX7_item_92 : decode mX7_item.2.1 92 = .ok (.goto 24, 3) := by decide +kernel
theorem eX7_item_95 : decode mX7_item.2.1 95 = .ok (.iload 5, 2) := by decide +kernel
theorem eX7_item_97 : decode mX7_item.2.1 97 = .ok (.iconst 3, 1) := by decide +kernel
theorem eX7_item_98 : decode mX7_item.2.1 98 = .ok (.if_icmp .ne 7, 3) := by decide +kernel
theorem eX7_item_101 : decode mX7_item.2.1 101 = .ok (.lload_n 3, 1) := by decide +kernel
theorem eX7_item_102 : decode mX7_item.2.1 102 = .ok (.goto 14, 3) := by decide +kernel
theorem eX7_item_105 : decode mX7_item.2.1 105 = .ok (.lload_n 3, 1) := by decide +kernel
theorem eX7_item_106 : decode mX7_item.2.1 106 = .ok (.lconst 0, 1) := by decide +kernel
theorem eX7_item_107 : decode mX7_item.2.1 107 = .ok (.lcmp, 1) := by decide +kernel
theorem eX7_item_108 : decode mX7_item.2.1 108 = .ok (.ifCond .eq 7, 3) := by decide +kernel
theorem eX7_item_111 : decode mX7_item.2.1 111 = .ok (.lconst 1, 1) := by decide +kernel
theorem eX7_item_112 : decode mX7_item.2.1 112 = .ok (.goto 4, 3) := by decide +kernel
theorem eX7_item_115 : decode mX7_item.2.1 115 = .ok (.lconst 0, 1) := by decide +kernel
theorem eX7_item_116 : decode mX7_item.2.1 116 = .ok (.lastore, 1) := by decide +kernel
theorem eX7_item_117 : decode mX7_item.2.1 117 = .ok (.iconst 1, 1) := by decide +kernel
theorem eX7_item_118 : decode mX7_item.2.1 118 = .ok (.ireturn, 1) := by decide +kernel
theorem c_X7_item (hM : MAt h u U) (hT : mT U) (t i : Int32) (v : Int64) (hd : 2 ≤ d) : Ct l G mX7_item yX7_item d 0 0 [.ref u, .int t, .int i, .long v] h (fun r h' => r = some (.int (sItem U t i v).1) ∧ MAt h' u (sItem U t i v).2 ∧ Same u 19 h h') := by
  refine ct_of (lv := [some (.ref u), some (.int t), some (.int i), some (.long v), none, none]) (by decide +kernel) rfl (fun z => by cases z) (fun _ => rfl) (fun _ => Nat.le_of_ble_eq_true rfl) ?_
  refine aw_iload_n (pc' := 1) eX7_item_0 rfl rfl ?_
  refine aw_calls (pc' := 4) (nn := 1) (c_X7_isTape (d := d - 1) _ (by omega)) eX7_item_1 rfl ⟨q1146, q1148, q62⟩ q1147 ⟨by decide +kernel, by decide +kernel, by decide +kernel⟩ rfl ⟨by omega, by decide⟩ ⟨by omega, by omega⟩ rfl (Nat.le_of_ble_eq_true rfl) (fun v1 h2 hq3 => ?_)
  obtain ⟨rfl, rfl⟩ := hq3
  dsimp only [Option.toList, List.cons_append, List.nil_append]
  refine aw_if_ne (pc' := 7) (tgt := 9) eX7_item_4 rfl (by decide) (fun c_4 => ?_) (fun c_4 => ?_)
  · simp only [zb_eq0, Bool.not_eq_false, Bool.not_eq_true, decide_eq_true_eq, decide_eq_false_iff_not, Decidable.not_not] at c_4
    obtain ⟨tt, htt, rfl⟩ := (bIn_lit (N := 5) (by omega)).mp c_4
    have clt : (nI tt).toNatClampNeg = tt := nI_clamp (by omega)
    have vt : vp_in (nI tt) 6 := vp_in_nI (by omega) (by omega)
    obtain ⟨⟨n, hn, en⟩, hso⟩ := hT tt (by omega)
    refine aw_aload_n (pc' := 10) eX7_item_9 rfl rfl trivial ?_
    refine aw_Mref (pc' := 13) (kf := 24) 15 hM eX7_item_10 rfl (by decide) rfl q813 ?_
    refine aw_iload_n (pc' := 14) eX7_item_13 rfl rfl ?_
    refine aw_MaldC (pc' := 15) 15 tt hM eX7_item_14 rfl (by decide) vt clt ?_
    refine aw_if_ge (pc' := 18) (tgt := 21) eX7_item_15 rfl (by decide) (fun c_15 => ?_) (fun c_15 => ?_)
    · refine aw_iload_n (pc' := 22) eX7_item_21 rfl rfl ?_
      refine aw_iconst (pc' := 23) (v := 0) eX7_item_22 rfl (by decide) ?_
      refine aw_aload_n (pc' := 24) eX7_item_23 rfl rfl trivial ?_
      refine aw_Mref (pc' := 27) (kf := 25) 16 hM eX7_item_24 rfl (by decide) rfl q814 ?_
      refine aw_iload_n (pc' := 28) eX7_item_27 rfl rfl ?_
      refine aw_MaldC (pc' := 29) 16 tt hM eX7_item_28 rfl (by decide) vt clt ?_
      refine aw_iconst (pc' := 30) (v := 1) eX7_item_29 rfl (by decide) ?_
      refine aw_isub (pc' := 31) eX7_item_30 rfl ?_
      refine aw_calls (pc' := 34) (nn := 3) (c_X7_isIn (d := d - 1) _ _ _ (by omega)) eX7_item_31 rfl ⟨q890, q892, q62⟩ q891 ⟨by decide +kernel, by decide +kernel, by decide +kernel⟩ rfl ⟨by omega, by decide⟩ ⟨by omega, by omega⟩ rfl (Nat.le_of_ble_eq_true rfl) (fun v4 h5 hq6 => ?_)
      obtain ⟨rfl, rfl⟩ := hq6
      dsimp only [Option.toList, List.cons_append, List.nil_append]
      refine aw_if_ne (pc' := 37) (tgt := 40) eX7_item_34 rfl (by decide) (fun c_34 => ?_) (fun c_34 => ?_)
      · simp only [zb_eq0, Bool.not_eq_false, Bool.not_eq_true, decide_eq_true_eq, decide_eq_false_iff_not, Decidable.not_not, en] at c_34
        have hcI : ∃ j, j < n ∧ i = nI j := by
          have z := c_34
          cases n with
          | zero =>
            rw [bIn_toInt, show (nI 0 - 1).toInt = -1 from by decide, show (0 : Int32).toInt = 0 from by decide] at z
            omega
          | succ k =>
            rw [nI_m1, bIn_lit (by omega)] at z
            obtain ⟨j, h1, h2⟩ := z
            exact ⟨j, by omega, h2⟩
        obtain ⟨j, hj, ej⟩ := hcI
        have clj : i.toNatClampNeg = j := by rw [ej]; exact nI_clamp (by omega)
        have hx60 : (60 * nI tt + i).toNatClampNeg = 60 * tt + j := by rw [ej]; exact (ix60 (by omega)).1
        have hv60 : vp_in (60 * nI tt + i) 360 := by rw [ej]; exact (ix60 (by omega)).2
        refine aw_aload_n (pc' := 41) eX7_item_40 rfl rfl trivial ?_
        refine aw_Mref (pc' := 44) (kf := 24) 15 hM eX7_item_41 rfl (by decide) rfl q813 ?_
        refine aw_iload_n (pc' := 45) eX7_item_44 rfl rfl ?_
        refine aw_MaldC (pc' := 46) 15 tt hM eX7_item_45 rfl (by decide) vt clt ?_
        refine aw_istore (pc' := 48) eX7_item_46 rfl (by decide) ?_
        dsimp only [zst, zst2, zcut]
        refine aw_aload_n (pc' := 49) eX7_item_48 rfl rfl trivial ?_
        refine aw_Mref (pc' := 52) (kf := 26) 17 hM eX7_item_49 rfl (by decide) rfl q815 ?_
        refine aw_bipush (pc' := 54) (v := 60) eX7_item_52 rfl (by decide) ?_
        refine aw_iload_n (pc' := 55) eX7_item_54 rfl rfl ?_
        refine aw_imul (pc' := 56) eX7_item_55 rfl ?_
        refine aw_iload_n (pc' := 57) eX7_item_56 rfl rfl ?_
        refine aw_iadd (pc' := 58) eX7_item_57 rfl ?_
        refine aw_iload (pc' := 60) eX7_item_58 rfl rfl ?_
        refine aw_if_ne (pc' := 63) (tgt := 70) eX7_item_60 rfl (by decide) (fun c_60 => ?_) (fun c_60 => ?_)
        · refine aw_iload (pc' := 72) eX7_item_70 rfl rfl ?_
          refine aw_iconst (pc' := 73) (v := 1) eX7_item_72 rfl (by decide) ?_
          refine aw_icmp_ne (pc' := 76) (tgt := 83) eX7_item_73 rfl (by decide) (fun c_73 => ?_) (fun c_73 => ?_)
          · refine aw_iload (pc' := 85) eX7_item_83 rfl rfl ?_
            refine aw_iconst (pc' := 86) (v := 2) eX7_item_85 rfl (by decide) ?_
            refine aw_icmp_ne (pc' := 89) (tgt := 95) eX7_item_86 rfl (by decide) (fun c_86 => ?_) (fun c_86 => ?_)
            · refine aw_iload (pc' := 97) eX7_item_95 rfl rfl ?_
              refine aw_iconst (pc' := 98) (v := 3) eX7_item_97 rfl (by decide) ?_
              refine aw_icmp_ne (pc' := 101) (tgt := 105) eX7_item_98 rfl (by decide) (fun c_98 => ?_) (fun c_98 => ?_)
              · refine aw_lload_n (pc' := 106) eX7_item_105 rfl rfl ?_
                refine aw_lconst (pc' := 107) (v := 0) eX7_item_106 rfl (by decide) ?_
                refine aw_lcmp (pc' := 108) eX7_item_107 rfl ?_
                refine aw_if_eq (pc' := 111) (tgt := 115) eX7_item_108 rfl (by decide) (fun c_108 => ?_) (fun c_108 => ?_)
                · refine aw_lconst (pc' := 116) (v := 0) eX7_item_115 rfl (by decide) ?_
                  refine aw_Mjst (pc' := 117) 17 hM eX7_item_116 rfl (by decide) hv60 (fun h9 hM7 hs8 => ?_)
                  refine aw_iconst (pc' := 118) (v := 1) eX7_item_117 rfl (by decide) ?_
                  refine aw_ret (v := some (.int _)) eX7_item_118 ⟨rfl, rfl⟩ (by omega) (by omega) rfl ?_
                  have c15 : ¬ U.1 15 tt < 0 := i32_nlt.mpr c_15
                  have hM9 := hM7
                  rw [hx60] at hM9
                  refine ⟨by rw [sItem, if_pos c_4, clt, if_neg c15, if_pos (by rw [en]; exact c_34)], ?_, hs8⟩
                  rw [sItem, if_pos c_4, clt, if_neg c15, if_pos (by rw [en]; exact c_34), clj]
                  first
                    | (simp only [sFit, c_60, c_73, c_86, c_98, c_108, if_true, if_false]; exact hM9)
                    | (simpa [sFit, c_60, c_73, c_86, c_98, c_108] using hM9)
                · refine aw_lconst (pc' := 112) (v := 1) eX7_item_111 rfl (by decide) ?_
                  refine aw_goto eX7_item_112 (by decide) (tgt := 116) ?_
                  refine aw_Mjst (pc' := 117) 17 hM eX7_item_116 rfl (by decide) hv60 (fun h12 hM10 hs11 => ?_)
                  refine aw_iconst (pc' := 118) (v := 1) eX7_item_117 rfl (by decide) ?_
                  refine aw_ret (v := some (.int _)) eX7_item_118 ⟨rfl, rfl⟩ (by omega) (by omega) rfl ?_
                  have c15 : ¬ U.1 15 tt < 0 := i32_nlt.mpr c_15
                  have hM9 := hM10
                  rw [hx60] at hM9
                  refine ⟨by rw [sItem, if_pos c_4, clt, if_neg c15, if_pos (by rw [en]; exact c_34)], ?_, hs11⟩
                  rw [sItem, if_pos c_4, clt, if_neg c15, if_pos (by rw [en]; exact c_34), clj]
                  first
                    | (simp only [sFit, c_60, c_73, c_86, c_98, c_108, if_true, if_false]; exact hM9)
                    | (simpa [sFit, c_60, c_73, c_86, c_98, c_108] using hM9)
              · refine aw_lload_n (pc' := 102) eX7_item_101 rfl rfl ?_
                refine aw_goto eX7_item_102 (by decide) (tgt := 116) ?_
                refine aw_Mjst (pc' := 117) 17 hM eX7_item_116 rfl (by decide) hv60 (fun h15 hM13 hs14 => ?_)
                refine aw_iconst (pc' := 118) (v := 1) eX7_item_117 rfl (by decide) ?_
                refine aw_ret (v := some (.int _)) eX7_item_118 ⟨rfl, rfl⟩ (by omega) (by omega) rfl ?_
                have c15 : ¬ U.1 15 tt < 0 := i32_nlt.mpr c_15
                have hM9 := hM13
                rw [hx60] at hM9
                refine ⟨by rw [sItem, if_pos c_4, clt, if_neg c15, if_pos (by rw [en]; exact c_34)], ?_, hs14⟩
                rw [sItem, if_pos c_4, clt, if_neg c15, if_pos (by rw [en]; exact c_34), clj]
                first
                  | (simp only [sFit, c_60, c_73, c_86, c_98, if_true, if_false]; exact hM9)
                  | (simpa [sFit, c_60, c_73, c_86, c_98] using hM9)
            · refine aw_lload_n (pc' := 90) eX7_item_89 rfl rfl ?_
              refine aw_l2i (pc' := 91) eX7_item_90 rfl ?_
              refine aw_i2l (pc' := 92) eX7_item_91 rfl ?_
              refine aw_goto eX7_item_92 (by decide) (tgt := 116) ?_
              refine aw_Mjst (pc' := 117) 17 hM eX7_item_116 rfl (by decide) hv60 (fun h18 hM16 hs17 => ?_)
              refine aw_iconst (pc' := 118) (v := 1) eX7_item_117 rfl (by decide) ?_
              refine aw_ret (v := some (.int _)) eX7_item_118 ⟨rfl, rfl⟩ (by omega) (by omega) rfl ?_
              have c15 : ¬ U.1 15 tt < 0 := i32_nlt.mpr c_15
              have hM9 := hM16
              rw [hx60] at hM9
              refine ⟨by rw [sItem, if_pos c_4, clt, if_neg c15, if_pos (by rw [en]; exact c_34)], ?_, hs17⟩
              rw [sItem, if_pos c_4, clt, if_neg c15, if_pos (by rw [en]; exact c_34), clj]
              first
                | (simp only [sFit, c_60, c_73, c_86, if_true, if_false]; exact hM9)
                | (simpa [sFit, c_60, c_73, c_86] using hM9)
          · refine aw_lload_n (pc' := 77) eX7_item_76 rfl rfl ?_
            refine aw_l2i (pc' := 78) eX7_item_77 rfl ?_
            refine aw_i2s (pc' := 79) eX7_item_78 rfl ?_
            refine aw_i2l (pc' := 80) eX7_item_79 rfl ?_
            refine aw_goto eX7_item_80 (by decide) (tgt := 116) ?_
            refine aw_Mjst (pc' := 117) 17 hM eX7_item_116 rfl (by decide) hv60 (fun h21 hM19 hs20 => ?_)
            refine aw_iconst (pc' := 118) (v := 1) eX7_item_117 rfl (by decide) ?_
            refine aw_ret (v := some (.int _)) eX7_item_118 ⟨rfl, rfl⟩ (by omega) (by omega) rfl ?_
            have c15 : ¬ U.1 15 tt < 0 := i32_nlt.mpr c_15
            have hM9 := hM19
            rw [hx60] at hM9
            refine ⟨by rw [sItem, if_pos c_4, clt, if_neg c15, if_pos (by rw [en]; exact c_34)], ?_, hs20⟩
            rw [sItem, if_pos c_4, clt, if_neg c15, if_pos (by rw [en]; exact c_34), clj]
            first
              | (simp only [sFit, c_60, c_73, if_true, if_false]; exact hM9)
              | (simpa [sFit, c_60, c_73] using hM9)
        · refine aw_lload_n (pc' := 64) eX7_item_63 rfl rfl ?_
          refine aw_l2i (pc' := 65) eX7_item_64 rfl ?_
          refine aw_i2b (pc' := 66) eX7_item_65 rfl ?_
          refine aw_i2l (pc' := 67) eX7_item_66 rfl ?_
          refine aw_goto eX7_item_67 (by decide) (tgt := 116) ?_
          refine aw_Mjst (pc' := 117) 17 hM eX7_item_116 rfl (by decide) hv60 (fun h24 hM22 hs23 => ?_)
          refine aw_iconst (pc' := 118) (v := 1) eX7_item_117 rfl (by decide) ?_
          refine aw_ret (v := some (.int _)) eX7_item_118 ⟨rfl, rfl⟩ (by omega) (by omega) rfl ?_
          have c15 : ¬ U.1 15 tt < 0 := i32_nlt.mpr c_15
          have hM9 := hM22
          rw [hx60] at hM9
          refine ⟨by rw [sItem, if_pos c_4, clt, if_neg c15, if_pos (by rw [en]; exact c_34)], ?_, hs23⟩
          rw [sItem, if_pos c_4, clt, if_neg c15, if_pos (by rw [en]; exact c_34), clj]
          first
            | (simp only [sFit, c_60, if_true, if_false]; exact hM9)
            | (simpa [sFit, c_60] using hM9)
      · refine aw_bipush (pc' := 39) (v := -13) eX7_item_37 rfl (by decide) ?_
        refine aw_ret (v := some (.int _)) eX7_item_39 ⟨rfl, rfl⟩ (by omega) (by omega) rfl ?_
        simp only [zb_eq0, Bool.not_eq_false, Bool.not_eq_true, decide_eq_true_eq, decide_eq_false_iff_not, Decidable.not_not, en] at c_34
        have c15 : ¬ U.1 15 tt < 0 := i32_nlt.mpr c_15
        exact ⟨by rw [sItem, if_pos c_4, clt, if_neg c15, if_neg (by rw [en, c_34]; decide)], by rw [sItem, if_pos c_4, clt, if_neg c15, if_neg (by rw [en, c_34]; decide)]; exact hM, Same.rf⟩
    · refine aw_bipush (pc' := 20) (v := -11) eX7_item_18 rfl (by decide) ?_
      refine aw_ret (v := some (.int _)) eX7_item_20 ⟨rfl, rfl⟩ (by omega) (by omega) rfl ?_
      exact ⟨by rw [sItem, if_pos c_4, clt, if_pos (i32_nle.mp c_15)], by rw [sItem, if_pos c_4, clt, if_pos (i32_nle.mp c_15)]; exact hM, Same.rf⟩
  · refine aw_iconst (pc' := 8) (v := -1) eX7_item_7 rfl (by decide) ?_
    refine aw_ret (v := some (.int _)) eX7_item_8 ⟨rfl, rfl⟩ (by omega) (by omega) rfl ?_
    try simp only [zb_eq0, Bool.not_eq_false, Bool.not_eq_true, decide_eq_true_eq, decide_eq_false_iff_not, Decidable.not_not] at c_4
    exact ⟨by simp [sItem, c_4], by simp [sItem, c_4]; exact hM, Same.rf⟩
end M6
end
section
/-! the model's parser: where it is (a), whether it is well (w) -/
section M7
variable {l : Launch} {G : GT} {d u : Nat} {h : Hp} {U : MS} {Q : Option Value → Hp → Prop}
abbrev PP : Type := Nat × Bool
def mp (U : MS) (p : PP) : MS := (U.1, fun j => if j = 11 then nI p.1 else if j = 12 then zb p.2 else U.2.1 j, U.2.2)
theorem mp11 (U : MS) (p : PP) : (mp U p).2.1 11 = nI p.1 := rfl
theorem mp12 (U : MS) (p : PP) : (mp U p).2.1 12 = zb p.2 := rfl
theorem mp_ne {U : MS} {p : PP} {j : Nat} (h1 : j ≠ 11) (h2 : j ≠ 12) : (mp U p).2.1 j = U.2.1 j := by simp [mp, h1, h2]
theorem mp_at (U : MS) (p : PP) (a : Nat) {x : Int32} (hx : x = nI a) : msc (mp U p) 11 x = mp U (a, p.2) := by
  subst hx
  unfold msc mp
  congr 2
  funext j
  by_cases h1 : j = 11
  · simp [h1]
  · simp [h1]
theorem mp_well (U : MS) (p : PP) (w : Bool) {x : Int32} (hx : x = zb w) : msc (mp U p) 12 x = mp U (p.1, w) := by
  subst hx
  unfold msc mp
  congr 2
  funext j
  by_cases h1 : j = 12
  · simp [h1]
  · by_cases h2 : j = 11 <;> simp [h1, h2]
theorem mp_id {U : MS} {p : PP} (h1 : U.2.1 11 = nI p.1) (h2 : U.2.1 12 = zb p.2) : mp U p = U := by
  unfold mp
  obtain ⟨x, y, z⟩ := U
  congr 2
  funext j
  by_cases e1 : j = 11
  · subst e1; simp; exact h1.symm
  · by_cases e2 : j = 12
    · subst e2; simp; exact h2.symm
    · simp [e1, e2]
theorem mp_mp (U : MS) (p p' : PP) : mp (mp U p) p' = mp U p' := by
  unfold mp
  congr 2
  funext j
  by_cases e1 : j = 11
  · simp [e1]
  · by_cases e2 : j = 12 <;> simp [e1, e2]
/-- the parser on a text R of n bytes -/
def pAt (R : Nat → Int32) (n : Nat) (p : PP) (c : Int32) : Bool := p.2 && decide (p.1 < n) && decide (R p.1 = c)
def pTk (R : Nat → Int32) (n : Nat) (p : PP) (c : Int32) : PP := if pAt R n p c = true then (p.1 + 1, p.2) else (p.1, false)
def pDg (R : Nat → Int32) (n : Nat) (p : PP) : Bool := p.2 && decide (p.1 < n) && decide (48 ≤ R p.1) && decide (R p.1 ≤ 57)
def pNum (R : Nat → Int32) (n : Nat) (p : PP) : Int32 × PP :=
  if pDg R n p = true then if pDg R n (p.1 + 1, p.2) = true then (10 * (R p.1 - 48) + R (p.1 + 1) - 48, (p.1 + 2, p.2)) else (R p.1 - 48, (p.1 + 1, p.2)) else (0, (p.1, false))
theorem pAt_lt {R : Nat → Int32} {n : Nat} {p : PP} {c : Int32} (h : pAt R n p c = true) : p.1 < n := by
  simp [pAt] at h
  exact h.1.2
theorem pTk_le {R : Nat → Int32} {n : Nat} {p : PP} {c : Int32} (h : p.1 ≤ n) : (pTk R n p c).1 ≤ n := by
  unfold pTk
  split
  · rename_i z; have := pAt_lt z; show p.1 + 1 ≤ n; omega
  · exact h
theorem pDg_lt {R : Nat → Int32} {n : Nat} {p : PP} (h : pDg R n p = true) : p.1 < n := by
  simp [pDg] at h
  exact h.1.1.2
theorem pNum_le {R : Nat → Int32} {n : Nat} {p : PP} (h : p.1 ≤ n) : (pNum R n p).2.1 ≤ n := by
  unfold pNum
  split
  · rename_i z; have := pDg_lt z
    split
    · rename_i z2; have := pDg_lt z2; show p.1 + 2 ≤ n; omega
    · show p.1 + 1 ≤ n; omega
  · exact h
/-- the text that is read -/
def pOk (U : MS) (n : Nat) : Prop := U.2.1 10 = nI n ∧ n ≤ 100

abbrev mX7_isAt : MT := (RX7, cX7_isAt, 2, (some .boolean), false)
theorem eX7_isAt_0 : decode mX7_isAt.2.1 0 = .ok (.aload_n 0, 1) := by decide +kernel
theorem eX7_isAt_1 : decode mX7_isAt.2.1 1 = .ok (.getfield 127, 3) := by decide +kernel
theorem eX7_isAt_4 : decode mX7_isAt.2.1 4 = .ok (.ifCond .eq 31, 3) := by decide +kernel
theorem eX7_isAt_7 : decode mX7_isAt.2.1 7 = .ok (.aload_n 0, 1) := by decide +kernel
theorem eX7_isAt_8 : decode mX7_isAt.2.1 8 = .ok (.getfield 130, 3) := by decide +kernel
theorem eX7_isAt_11 : decode mX7_isAt.2.1 11 = .ok (.aload_n 0, 1) := by decide +kernel
theorem eX7_isAt_12 : decode mX7_isAt.2.1 12 = .ok (.getfield 133, 3) := by decide +kernel
theorem eX7_isAt_15 : decode mX7_isAt.2.1 15 = .ok (.if_icmp .ge 20, 3) := by decide +kernel
theorem eX7_isAt_18 : decode mX7_isAt.2.1 18 = .ok (.aload_n 0, 1) := by decide +kernel
theorem eX7_isAt_19 : decode mX7_isAt.2.1 19 = .ok (.getfield 34, 3) := by decide +kernel
theorem eX7_isAt_22 : decode mX7_isAt.2.1 22 = .ok (.aload_n 0, 1) := by decide +kernel
theorem eX7_isAt_23 : decode mX7_isAt.2.1 23 = .ok (.getfield 130, 3) := by decide +kernel
theorem eX7_isAt_26 : decode mX7_isAt.2.1 26 = .ok (.iaload, 1) := by decide +kernel
theorem eX7_isAt_27 : decode mX7_isAt.2.1 27 = .ok (.iload_n 1, 1) := by decide +kernel
theorem eX7_isAt_28 : decode mX7_isAt.2.1 28 = .ok (.if_icmp .ne 7, 3) := by decide +kernel
theorem eX7_isAt_31 : decode mX7_isAt.2.1 31 = .ok (.iconst 1, 1) := by decide +kernel
theorem eX7_isAt_32 : decode mX7_isAt.2.1 32 = .ok (.goto 4, 3) := by decide +kernel
theorem eX7_isAt_35 : decode mX7_isAt.2.1 35 = .ok (.iconst 0, 1) := by decide +kernel
theorem eX7_isAt_36 : decode mX7_isAt.2.1 36 = .ok (.ireturn, 1) := by decide +kernel
theorem c_X7_isAt {n : Nat} {p : PP} (hM : MAt h u (mp U p)) (hn : pOk U n) (ha : p.1 ≤ n) (c : Int32) (hd : 0 ≤ d) : Ct l G mX7_isAt yX7_isAt d 0 0 [.ref u, .int c] h (fun r h' => r = some (.int (zb (pAt (U.1 7) n p c))) ∧ h' = h) := by
  refine ct_of (lv := [some (.ref u), some (.int c)]) (by decide +kernel) rfl (fun z => by cases z) (fun _ => rfl) (fun _ => Nat.le_of_ble_eq_true rfl) ?_
  refine aw_aload_n (pc' := 1) eX7_isAt_0 rfl rfl trivial ?_
  refine aw_Mint (pc' := 4) (kf := 12) hM eX7_isAt_1 rfl (by decide) q801 ?_
  refine aw_if_eq (pc' := 7) (tgt := 35) eX7_isAt_4 rfl (by decide) (fun c_4 => ?_) (fun c_4 => ?_)
  · refine aw_iconst (pc' := 36) (v := 0) eX7_isAt_35 rfl (by decide) ?_
    refine aw_ret (v := some (.int _)) eX7_isAt_36 ⟨rfl, rfl⟩ (by omega) (by omega) rfl ?_
    have n100 := hn.2
    have e4 := c_4
    change zb p.2 = 0 at e4
    simp only [zb_eq0] at e4
    exact ⟨by simp [pAt, zb, i32_nlt, i32_nle, e4], rfl⟩
  · refine aw_aload_n (pc' := 8) eX7_isAt_7 rfl rfl trivial ?_
    refine aw_Mint (pc' := 11) (kf := 11) hM eX7_isAt_8 rfl (by decide) q800 ?_
    refine aw_aload_n (pc' := 12) eX7_isAt_11 rfl rfl trivial ?_
    refine aw_Mint (pc' := 15) (kf := 10) hM eX7_isAt_12 rfl (by decide) q799 ?_
    refine aw_icmp_ge (pc' := 18) (tgt := 35) eX7_isAt_15 rfl (by decide) (fun c_15 => ?_) (fun c_15 => ?_)
    · refine aw_iconst (pc' := 36) (v := 0) eX7_isAt_35 rfl (by decide) ?_
      refine aw_ret (v := some (.int _)) eX7_isAt_36 ⟨rfl, rfl⟩ (by omega) (by omega) rfl ?_
      have n100 := hn.2
      have e4 := c_4
      change ¬ zb p.2 = 0 at e4
      simp only [zb_eq0, Bool.not_eq_false] at e4
      have e15 : ¬ p.1 < n := by have := ge_nI (a := p.1) (b := n) (by omega) (by omega) (by rw [← hn.1]; exact c_15); omega
      exact ⟨by simp [pAt, zb, i32_nlt, i32_nle, e4, e15], rfl⟩
    · have c9 : p.1 < n := nge_nI (by have := hn.2; omega) (by have := hn.2; omega) (by rw [← hn.1]; exact c_15)
      have n100 := hn.2
      refine aw_aload_n (pc' := 19) eX7_isAt_18 rfl rfl trivial ?_
      refine aw_Mref (pc' := 22) (kf := 9) 7 hM eX7_isAt_19 rfl (by decide) rfl q798 ?_
      refine aw_aload_n (pc' := 23) eX7_isAt_22 rfl rfl trivial ?_
      refine aw_Mint (pc' := 26) (kf := 11) hM eX7_isAt_23 rfl (by decide) q800 ?_
      refine aw_MaldC (pc' := 27) 7 p.1 hM eX7_isAt_26 rfl (by decide) (show vp_in _ 100 from vp_in_nI (by omega) (by omega)) (nI_clamp (by omega)) ?_
      refine aw_iload_n (pc' := 28) eX7_isAt_27 rfl rfl ?_
      refine aw_icmp_ne (pc' := 31) (tgt := 35) eX7_isAt_28 rfl (by decide) (fun c_28 => ?_) (fun c_28 => ?_)
      · refine aw_iconst (pc' := 36) (v := 0) eX7_isAt_35 rfl (by decide) ?_
        refine aw_ret (v := some (.int _)) eX7_isAt_36 ⟨rfl, rfl⟩ (by omega) (by omega) rfl ?_
        have n100 := hn.2
        have e4 := c_4
        change ¬ zb p.2 = 0 at e4
        simp only [zb_eq0, Bool.not_eq_false] at e4
        have fc_28 := c_28
        try simp only [show (mp U p).1 = U.1 from rfl, i32_nlt, i32_nle] at fc_28
        exact ⟨by simp [pAt, zb, i32_nlt, i32_nle, e4, c9, fc_28], rfl⟩
      · refine aw_iconst (pc' := 32) (v := 1) eX7_isAt_31 rfl (by decide) ?_
        refine aw_goto eX7_isAt_32 (by decide) (tgt := 36) ?_
        refine aw_ret (v := some (.int _)) eX7_isAt_36 ⟨rfl, rfl⟩ (by omega) (by omega) rfl ?_
        have n100 := hn.2
        have e4 := c_4
        change ¬ zb p.2 = 0 at e4
        simp only [zb_eq0, Bool.not_eq_false] at e4
        have fc_28 := c_28
        try simp only [show (mp U p).1 = U.1 from rfl, i32_nlt, i32_nle] at fc_28
        exact ⟨by simp [pAt, zb, i32_nlt, i32_nle, e4, c9, fc_28], rfl⟩
abbrev mX7_isDigit : MT := (RX7, cX7_isDigit, 1, (some .boolean), false)
theorem eX7_isDigit_0 : decode mX7_isDigit.2.1 0 = .ok (.aload_n 0, 1) := by decide +kernel
theorem eX7_isDigit_1 : decode mX7_isDigit.2.1 1 = .ok (.getfield 127, 3) := by decide +kernel
theorem eX7_isDigit_4 : decode mX7_isDigit.2.1 4 = .ok (.ifCond .eq 46, 3) := by decide +kernel
theorem eX7_isDigit_7 : decode mX7_isDigit.2.1 7 = .ok (.aload_n 0, 1) := by decide +kernel
theorem eX7_isDigit_8 : decode mX7_isDigit.2.1 8 = .ok (.getfield 130, 3) := by decide +kernel
theorem eX7_isDigit_11 : decode mX7_isDigit.2.1 11 = .ok (.aload_n 0, 1) := by decide +kernel
theorem eX7_isDigit_12 : decode mX7_isDigit.2.1 12 = .ok (.getfield 133, 3) := by decide +kernel
theorem eX7_isDigit_15 : decode mX7_isDigit.2.1 15 = .ok (.if_icmp .ge 35, 3) := by decide +kernel
theorem eX7_isDigit_18 : decode mX7_isDigit.2.1 18 = .ok (.aload_n 0, 1) := by decide +kernel
theorem eX7_isDigit_19 : decode mX7_isDigit.2.1 19 = .ok (.getfield 34, 3) := by decide +kernel
theorem eX7_isDigit_22 : decode mX7_isDigit.2.1 22 = .ok (.aload_n 0, 1) := by decide +kernel
theorem eX7_isDigit_23 : decode mX7_isDigit.2.1 23 = .ok (.getfield 130, 3) := by decide +kernel
theorem eX7_isDigit_26 : decode mX7_isDigit.2.1 26 = .ok (.iaload, 1) := by decide +kernel
theorem eX7_isDigit_27 : decode mX7_isDigit.2.1 27 = .ok (.bipush 48, 2) := by decide +kernel
theorem eX7_isDigit_29 : decode mX7_isDigit.2.1 29 = .ok (.if_icmp .lt 21, 3) := by decide +kernel
theorem eX7_isDigit_32 : decode mX7_isDigit.2.1 32 = .ok (.aload_n 0, 1) := by decide +kernel
theorem eX7_isDigit_33 : decode mX7_isDigit.2.1 33 = .ok (.getfield 34, 3) := by decide +kernel
theorem eX7_isDigit_36 : decode mX7_isDigit.2.1 36 = .ok (.aload_n 0, 1) := by decide +kernel
theorem eX7_isDigit_37 : decode mX7_isDigit.2.1 37 = .ok (.getfield 130, 3) := by decide +kernel
theorem eX7_isDigit_40 : decode mX7_isDigit.2.1 40 = .ok (.iaload, 1) := by decide +kernel
theorem eX7_isDigit_41 : decode mX7_isDigit.2.1 41 = .ok (.bipush 57, 2) := by decide +kernel
theorem eX7_isDigit_43 : decode mX7_isDigit.2.1 43 = .ok (.if_icmp .gt 7, 3) := by decide +kernel
theorem eX7_isDigit_46 : decode mX7_isDigit.2.1 46 = .ok (.iconst 1, 1) := by decide +kernel
theorem eX7_isDigit_47 : decode mX7_isDigit.2.1 47 = .ok (.goto 4, 3) := by decide +kernel
theorem eX7_isDigit_50 : decode mX7_isDigit.2.1 50 = .ok (.iconst 0, 1) := by decide +kernel
theorem eX7_isDigit_51 : decode mX7_isDigit.2.1 51 = .ok (.ireturn, 1) := by decide +kernel
theorem c_X7_isDigit {n : Nat} {p : PP} (hM : MAt h u (mp U p)) (hn : pOk U n) (ha : p.1 ≤ n) (hd : 0 ≤ d) : Ct l G mX7_isDigit yX7_isDigit d 0 0 [.ref u] h (fun r h' => r = some (.int (zb (pDg (U.1 7) n p))) ∧ h' = h) := by
  refine ct_of (lv := [some (.ref u)]) (by decide +kernel) rfl (fun z => by cases z) (fun _ => rfl) (fun _ => Nat.le_of_ble_eq_true rfl) ?_
  refine aw_aload_n (pc' := 1) eX7_isDigit_0 rfl rfl trivial ?_
  refine aw_Mint (pc' := 4) (kf := 12) hM eX7_isDigit_1 rfl (by decide) q801 ?_
  refine aw_if_eq (pc' := 7) (tgt := 50) eX7_isDigit_4 rfl (by decide) (fun c_4 => ?_) (fun c_4 => ?_)
  · refine aw_iconst (pc' := 51) (v := 0) eX7_isDigit_50 rfl (by decide) ?_
    refine aw_ret (v := some (.int _)) eX7_isDigit_51 ⟨rfl, rfl⟩ (by omega) (by omega) rfl ?_
    have n100 := hn.2
    have e4 := c_4
    change zb p.2 = 0 at e4
    simp only [zb_eq0] at e4
    exact ⟨by simp [pDg, zb, i32_nlt, i32_nle, e4], rfl⟩
  · refine aw_aload_n (pc' := 8) eX7_isDigit_7 rfl rfl trivial ?_
    refine aw_Mint (pc' := 11) (kf := 11) hM eX7_isDigit_8 rfl (by decide) q800 ?_
    refine aw_aload_n (pc' := 12) eX7_isDigit_11 rfl rfl trivial ?_
    refine aw_Mint (pc' := 15) (kf := 10) hM eX7_isDigit_12 rfl (by decide) q799 ?_
    refine aw_icmp_ge (pc' := 18) (tgt := 50) eX7_isDigit_15 rfl (by decide) (fun c_15 => ?_) (fun c_15 => ?_)
    · refine aw_iconst (pc' := 51) (v := 0) eX7_isDigit_50 rfl (by decide) ?_
      refine aw_ret (v := some (.int _)) eX7_isDigit_51 ⟨rfl, rfl⟩ (by omega) (by omega) rfl ?_
      have n100 := hn.2
      have e4 := c_4
      change ¬ zb p.2 = 0 at e4
      simp only [zb_eq0, Bool.not_eq_false] at e4
      have e15 : ¬ p.1 < n := by have := ge_nI (a := p.1) (b := n) (by omega) (by omega) (by rw [← hn.1]; exact c_15); omega
      exact ⟨by simp [pDg, zb, i32_nlt, i32_nle, e4, e15], rfl⟩
    · have c9 : p.1 < n := nge_nI (by have := hn.2; omega) (by have := hn.2; omega) (by rw [← hn.1]; exact c_15)
      have n100 := hn.2
      refine aw_aload_n (pc' := 19) eX7_isDigit_18 rfl rfl trivial ?_
      refine aw_Mref (pc' := 22) (kf := 9) 7 hM eX7_isDigit_19 rfl (by decide) rfl q798 ?_
      refine aw_aload_n (pc' := 23) eX7_isDigit_22 rfl rfl trivial ?_
      refine aw_Mint (pc' := 26) (kf := 11) hM eX7_isDigit_23 rfl (by decide) q800 ?_
      refine aw_MaldC (pc' := 27) 7 p.1 hM eX7_isDigit_26 rfl (by decide) (show vp_in _ 100 from vp_in_nI (by omega) (by omega)) (nI_clamp (by omega)) ?_
      refine aw_bipush (pc' := 29) (v := 48) eX7_isDigit_27 rfl (by decide) ?_
      refine aw_icmp_lt (pc' := 32) (tgt := 50) eX7_isDigit_29 rfl (by decide) (fun c_29 => ?_) (fun c_29 => ?_)
      · refine aw_iconst (pc' := 51) (v := 0) eX7_isDigit_50 rfl (by decide) ?_
        refine aw_ret (v := some (.int _)) eX7_isDigit_51 ⟨rfl, rfl⟩ (by omega) (by omega) rfl ?_
        have n100 := hn.2
        have e4 := c_4
        change ¬ zb p.2 = 0 at e4
        simp only [zb_eq0, Bool.not_eq_false] at e4
        have fc_29 := c_29
        try simp only [show (mp U p).1 = U.1 from rfl, i32_nlt, i32_nle] at fc_29
        have fc_29 := i32_nle.mpr fc_29
        exact ⟨by simp [pDg, zb, i32_nlt, i32_nle, e4, c9, fc_29], rfl⟩
      · refine aw_aload_n (pc' := 33) eX7_isDigit_32 rfl rfl trivial ?_
        refine aw_Mref (pc' := 36) (kf := 9) 7 hM eX7_isDigit_33 rfl (by decide) rfl q798 ?_
        refine aw_aload_n (pc' := 37) eX7_isDigit_36 rfl rfl trivial ?_
        refine aw_Mint (pc' := 40) (kf := 11) hM eX7_isDigit_37 rfl (by decide) q800 ?_
        refine aw_MaldC (pc' := 41) 7 p.1 hM eX7_isDigit_40 rfl (by decide) (show vp_in _ 100 from vp_in_nI (by omega) (by omega)) (nI_clamp (by omega)) ?_
        refine aw_bipush (pc' := 43) (v := 57) eX7_isDigit_41 rfl (by decide) ?_
        refine aw_icmp_gt (pc' := 46) (tgt := 50) eX7_isDigit_43 rfl (by decide) (fun c_43 => ?_) (fun c_43 => ?_)
        · refine aw_iconst (pc' := 51) (v := 0) eX7_isDigit_50 rfl (by decide) ?_
          refine aw_ret (v := some (.int _)) eX7_isDigit_51 ⟨rfl, rfl⟩ (by omega) (by omega) rfl ?_
          have n100 := hn.2
          have e4 := c_4
          change ¬ zb p.2 = 0 at e4
          simp only [zb_eq0, Bool.not_eq_false] at e4
          have fc_29 := c_29
          try simp only [show (mp U p).1 = U.1 from rfl, i32_nlt, i32_nle] at fc_29
          have fc_43 := c_43
          try simp only [show (mp U p).1 = U.1 from rfl, i32_nlt, i32_nle] at fc_43
          exact ⟨by simp [pDg, zb, i32_nlt, i32_nle, e4, c9, fc_29, fc_43], rfl⟩
        · refine aw_iconst (pc' := 47) (v := 1) eX7_isDigit_46 rfl (by decide) ?_
          refine aw_goto eX7_isDigit_47 (by decide) (tgt := 51) ?_
          refine aw_ret (v := some (.int _)) eX7_isDigit_51 ⟨rfl, rfl⟩ (by omega) (by omega) rfl ?_
          have n100 := hn.2
          have e4 := c_4
          change ¬ zb p.2 = 0 at e4
          simp only [zb_eq0, Bool.not_eq_false] at e4
          have fc_29 := c_29
          try simp only [show (mp U p).1 = U.1 from rfl, i32_nlt, i32_nle] at fc_29
          have fc_43 := c_43
          try simp only [show (mp U p).1 = U.1 from rfl, i32_nlt, i32_nle] at fc_43
          exact ⟨by simp [pDg, zb, i32_nlt, i32_nle, e4, c9, fc_29, fc_43], rfl⟩
abbrev mX7_takes : MT := (RX7, cX7_takes, 2, none, false)
theorem eX7_takes_0 : decode mX7_takes.2.1 0 = .ok (.aload_n 0, 1) := by decide +kernel
theorem eX7_takes_1 : decode mX7_takes.2.1 1 = .ok (.iload_n 1, 1) := by decide +kernel
theorem eX7_takes_2 : decode mX7_takes.2.1 2 = .ok (.invokevirtual 136, 3) := by decide +kernel
theorem eX7_takes_5 : decode mX7_takes.2.1 5 = .ok (.ifCond .eq 16, 3) := by decide +kernel
theorem eX7_takes_8 : decode mX7_takes.2.1 8 = .ok (.aload_n 0, 1) := by decide +kernel
theorem eX7_takes_9 : decode mX7_takes.2.1 9 = .ok (.dup, 1) := by decide +kernel
theorem eX7_takes_10 : decode mX7_takes.2.1 10 = .ok (.getfield 130, 3) := by decide +kernel
theorem eX7_takes_13 : decode mX7_takes.2.1 13 = .ok (.iconst 1, 1) := by decide +kernel
theorem eX7_takes_14 : decode mX7_takes.2.1 14 = .ok (.iadd, 1) := by decide +kernel
theorem eX7_takes_15 : decode mX7_takes.2.1 15 = .ok (.putfield 130, 3) := by decide +kernel
theorem eX7_takes_18 : decode mX7_takes.2.1 18 = .ok (.goto 8, 3) := by decide +kernel
theorem eX7_takes_21 : decode mX7_takes.2.1 21 = .ok (.aload_n 0, 1) := by decide +kernel
theorem eX7_takes_22 : decode mX7_takes.2.1 22 = .ok (.iconst 0, 1) := by decide +kernel
theorem eX7_takes_23 : decode mX7_takes.2.1 23 = .ok (.putfield 127, 3) := by decide +kernel
theorem eX7_takes_26 : decode mX7_takes.2.1 26 = .ok (.return_, 1) := by decide +kernel
theorem c_X7_takes {n : Nat} {p : PP} (hM : MAt h u (mp U p)) (hn : pOk U n) (ha : p.1 ≤ n) (c : Int32) (hd : 1 ≤ d) : Ct l G mX7_takes yX7_takes d 0 0 [.ref u, .int c] h (fun r h' => r = none ∧ MAt h' u (mp U (pTk (U.1 7) n p c)) ∧ Same u 19 h h') := by
  refine ct_of (lv := [some (.ref u), some (.int c)]) (by decide +kernel) rfl (fun z => by cases z) (fun _ => rfl) (fun _ => Nat.le_of_ble_eq_true rfl) ?_
  refine aw_aload_n (pc' := 1) eX7_takes_0 rfl rfl trivial ?_
  refine aw_iload_n (pc' := 2) eX7_takes_1 rfl rfl ?_
  refine aw_callv (pc' := 5) (nn := 1) (c_X7_isAt (d := d - 1) hM hn ha _ (by omega)) eX7_takes_2 rfl ⟨q921, q924, q62⟩ q923 q27 ⟨rfl, by decide +kernel, by decide +kernel, by decide +kernel⟩ rfl (by rw [hM.2.1]; exact ⟨rfl, rfl⟩) rfl ⟨by omega, by decide⟩ ⟨by omega, by omega⟩ rfl (Nat.le_of_ble_eq_true rfl) (fun v1 h2 hq3 => ?_)
  obtain ⟨rfl, rfl⟩ := hq3
  dsimp only [Option.toList, List.cons_append, List.nil_append]
  refine aw_if_eq (pc' := 8) (tgt := 21) eX7_takes_5 rfl (by decide) (fun c_5 => ?_) (fun c_5 => ?_)
  · refine aw_aload_n (pc' := 22) eX7_takes_21 rfl rfl trivial ?_
    refine aw_iconst (pc' := 23) (v := 0) eX7_takes_22 rfl (by decide) ?_
    refine aw_Mput (pc' := 26) 12 hM eX7_takes_23 rfl (by decide) (fun _ => by decide) q801 (fun h6 hM4 hs5 => ?_)
    refine aw_ret (v := none) eX7_takes_26 rfl (by omega) (by omega) rfl ?_
    simp only [zb_eq0, Bool.not_eq_false, Bool.not_eq_true, decide_eq_true_eq, decide_eq_false_iff_not, Decidable.not_not] at c_5
    have hM9 := hM4
    refine ⟨rfl, ?_, hs5⟩
    first
      | (rw [pTk, if_pos c_5]; rw [show msc (mp U p) 11 ((mp U p).2.1 11 + 1) = mp U (p.1 + 1, p.2) from mp_at U p (p.1 + 1) (nI_1 p.1)] at hM9; exact hM9)
      | (rw [pTk, if_neg (by rw [c_5]; decide)]; rw [mp_well U p false (x := 0) rfl] at hM9; exact hM9)
  · refine aw_aload_n (pc' := 9) eX7_takes_8 rfl rfl trivial ?_
    refine aw_dup (pc' := 10) eX7_takes_9 rfl rfl ?_
    refine aw_Mint (pc' := 13) (kf := 11) hM eX7_takes_10 rfl (by decide) q800 ?_
    refine aw_iconst (pc' := 14) (v := 1) eX7_takes_13 rfl (by decide) ?_
    refine aw_iadd (pc' := 15) eX7_takes_14 rfl ?_
    refine aw_Mput (pc' := 18) 11 hM eX7_takes_15 rfl (by decide) (fun z => absurd z (by decide)) q800 (fun h9 hM7 hs8 => ?_)
    refine aw_goto eX7_takes_18 (by decide) (tgt := 26) ?_
    refine aw_ret (v := none) eX7_takes_26 rfl (by omega) (by omega) rfl ?_
    simp only [zb_eq0, Bool.not_eq_false, Bool.not_eq_true, decide_eq_true_eq, decide_eq_false_iff_not, Decidable.not_not] at c_5
    have hM9 := hM7
    refine ⟨rfl, ?_, hs8⟩
    first
      | (rw [pTk, if_pos c_5]; rw [show msc (mp U p) 11 ((mp U p).2.1 11 + 1) = mp U (p.1 + 1, p.2) from mp_at U p (p.1 + 1) (nI_1 p.1)] at hM9; exact hM9)
      | (rw [pTk, if_neg (by rw [c_5]; decide)]; rw [mp_well U p false (x := 0) rfl] at hM9; exact hM9)
abbrev mX7_number : MT := (RX7, cX7_number, 2, (some .int), false)
theorem eX7_number_0 : decode mX7_number.2.1 0 = .ok (.aload_n 0, 1) := by decide +kernel
theorem eX7_number_1 : decode mX7_number.2.1 1 = .ok (.invokevirtual 139, 3) := by decide +kernel
theorem eX7_number_4 : decode mX7_number.2.1 4 = .ok (.ifCond .ne 10, 3) := by decide +kernel
theorem eX7_number_7 : decode mX7_number.2.1 7 = .ok (.aload_n 0, 1) := by decide +kernel
theorem eX7_number_8 : decode mX7_number.2.1 8 = .ok (.iconst 0, 1) := by decide +kernel
theorem eX7_number_9 : decode mX7_number.2.1 9 = .ok (.putfield 127, 3) := by decide +kernel
theorem eX7_number_12 : decode mX7_number.2.1 12 = .ok (.iconst 0, 1) := by decide +kernel
theorem eX7_number_13 : decode mX7_number.2.1 13 = .ok (.ireturn, 1) := by decide +kernel
theorem eX7_number_14 : decode mX7_number.2.1 14 = .ok (.aload_n 0, 1) := by decide +kernel
theorem eX7_number_15 : decode mX7_number.2.1 15 = .ok (.getfield 34, 3) := by decide +kernel
theorem eX7_number_18 : decode mX7_number.2.1 18 = .ok (.aload_n 0, 1) := by decide +kernel
theorem eX7_number_19 : decode mX7_number.2.1 19 = .ok (.getfield 130, 3) := by decide +kernel
theorem eX7_number_22 : decode mX7_number.2.1 22 = .ok (.iaload, 1) := by decide +kernel
theorem eX7_number_23 : decode mX7_number.2.1 23 = .ok (.bipush 48, 2) := by decide +kernel
theorem eX7_number_25 : decode mX7_number.2.1 25 = .ok (.isub, 1) := by decide +kernel
theorem eX7_number_26 : decode mX7_number.2.1 26 = .ok (.istore_n 1, 1) := by decide +kernel
theorem eX7_number_27 : decode mX7_number.2.1 27 = .ok (.aload_n 0, 1) := by decide +kernel
theorem eX7_number_28 : decode mX7_number.2.1 28 = .ok (.dup, 1) := by decide +kernel
theorem eX7_number_29 : decode mX7_number.2.1 29 = .ok (.getfield 130, 3) := by decide +kernel
theorem eX7_number_32 : decode mX7_number.2.1 32 = .ok (.iconst 1, 1) := by decide +kernel
theorem eX7_number_33 : decode mX7_number.2.1 33 = .ok (.iadd, 1) := by decide +kernel
theorem eX7_number_34 : decode mX7_number.2.1 34 = .ok (.putfield 130, 3) := by decide +kernel
theorem eX7_number_37 : decode mX7_number.2.1 37 = .ok (.aload_n 0, 1) := by decide +kernel
theorem eX7_number_38 : decode mX7_number.2.1 38 = .ok (.invokevirtual 139, 3) := by decide +kernel
theorem eX7_number_41 : decode mX7_number.2.1 41 = .ok (.ifCond .eq 31, 3) := by decide +kernel
theorem eX7_number_44 : decode mX7_number.2.1 44 = .ok (.bipush 10, 2) := by decide +kernel
theorem eX7_number_46 : decode mX7_number.2.1 46 = .ok (.iload_n 1, 1) := by decide +kernel
theorem eX7_number_47 : decode mX7_number.2.1 47 = .ok (.imul, 1) := by decide +kernel
theorem eX7_number_48 : decode mX7_number.2.1 48 = .ok (.aload_n 0, 1) := by decide +kernel
theorem eX7_number_49 : decode mX7_number.2.1 49 = .ok (.getfield 34, 3) := by decide +kernel
theorem eX7_number_52 : decode mX7_number.2.1 52 = .ok (.aload_n 0, 1) := by decide +kernel
theorem eX7_number_53 : decode mX7_number.2.1 53 = .ok (.getfield 130, 3) := by decide +kernel
theorem eX7_number_56 : decode mX7_number.2.1 56 = .ok (.iaload, 1) := by decide +kernel
theorem eX7_number_57 : decode mX7_number.2.1 57 = .ok (.iadd, 1) := by decide +kernel
theorem eX7_number_58 : decode mX7_number.2.1 58 = .ok (.bipush 48, 2) := by decide +kernel
theorem eX7_number_60 : decode mX7_number.2.1 60 = .ok (.isub, 1) := by decide +kernel
theorem eX7_number_61 : decode mX7_number.2.1 61 = .ok (.istore_n 1, 1) := by decide +kernel
theorem eX7_number_62 : decode mX7_number.2.1 62 = .ok (.aload_n 0, 1) := by decide +kernel
theorem eX7_number_63 : decode mX7_number.2.1 63 = .ok (.dup, 1) := by decide +kernel
theorem eX7_number_64 : decode mX7_number.2.1 64 = .ok (.getfield 130, 3) := by decide +kernel
theorem eX7_number_67 : decode mX7_number.2.1 67 = .ok (.iconst 1, 1) := by decide +kernel
theorem eX7_number_68 : decode mX7_number.2.1 68 = .ok (.iadd, 1) := by decide +kernel
theorem eX7_number_69 : decode mX7_number.2.1 69 = .ok (.putfield 130, 3) := by decide +kernel
theorem eX7_number_72 : decode mX7_number.2.1 72 = .ok (.iload_n 1, 1) := by decide +kernel
theorem eX7_number_73 : decode mX7_number.2.1 73 = .ok (.ireturn, 1) := by decide +kernel
theorem c_X7_number {n : Nat} {p : PP} (hM : MAt h u (mp U p)) (hn : pOk U n) (ha : p.1 ≤ n) (hd : 1 ≤ d) : Ct l G mX7_number yX7_number d 0 0 [.ref u] h (fun r h' => r = some (.int (pNum (U.1 7) n p).1) ∧ MAt h' u (mp U (pNum (U.1 7) n p).2) ∧ Same u 19 h h') := by
  refine ct_of (lv := [some (.ref u), none]) (by decide +kernel) rfl (fun z => by cases z) (fun _ => rfl) (fun _ => Nat.le_of_ble_eq_true rfl) ?_
  refine aw_aload_n (pc' := 1) eX7_number_0 rfl rfl trivial ?_
  refine aw_callv (pc' := 4) (nn := 0) (c_X7_isDigit (d := d - 1) hM hn ha (by omega)) eX7_number_1 rfl ⟨q933, q936, q62⟩ q935 q30 ⟨rfl, by decide +kernel, by decide +kernel, by decide +kernel⟩ rfl (by rw [hM.2.1]; exact ⟨rfl, rfl⟩) rfl ⟨by omega, by decide⟩ ⟨by omega, by omega⟩ rfl (Nat.le_of_ble_eq_true rfl) (fun v1 h2 hq3 => ?_)
  obtain ⟨rfl, rfl⟩ := hq3
  dsimp only [Option.toList, List.cons_append, List.nil_append]
  refine aw_if_ne (pc' := 7) (tgt := 14) eX7_number_4 rfl (by decide) (fun c_4 => ?_) (fun c_4 => ?_)
  · simp only [zb_eq0, Bool.not_eq_false, Bool.not_eq_true, decide_eq_true_eq, decide_eq_false_iff_not, Decidable.not_not] at c_4
    have c9 := pDg_lt c_4
    have n100 := hn.2
    refine aw_aload_n (pc' := 15) eX7_number_14 rfl rfl trivial ?_
    refine aw_Mref (pc' := 18) (kf := 9) 7 hM eX7_number_15 rfl (by decide) rfl q798 ?_
    refine aw_aload_n (pc' := 19) eX7_number_18 rfl rfl trivial ?_
    refine aw_Mint (pc' := 22) (kf := 11) hM eX7_number_19 rfl (by decide) q800 ?_
    refine aw_MaldC (pc' := 23) 7 p.1 hM eX7_number_22 rfl (by decide) (show vp_in _ 100 from vp_in_nI (by omega) (by omega)) (nI_clamp (by omega)) ?_
    refine aw_bipush (pc' := 25) (v := 48) eX7_number_23 rfl (by decide) ?_
    refine aw_isub (pc' := 26) eX7_number_25 rfl ?_
    refine aw_istore_n (pc' := 27) eX7_number_26 rfl (by decide) ?_
    dsimp only [zst, zst2, zcut]
    refine aw_aload_n (pc' := 28) eX7_number_27 rfl rfl trivial ?_
    refine aw_dup (pc' := 29) eX7_number_28 rfl rfl ?_
    refine aw_Mint (pc' := 32) (kf := 11) hM eX7_number_29 rfl (by decide) q800 ?_
    refine aw_iconst (pc' := 33) (v := 1) eX7_number_32 rfl (by decide) ?_
    refine aw_iadd (pc' := 34) eX7_number_33 rfl ?_
    refine aw_Mput (pc' := 37) 11 hM eX7_number_34 rfl (by decide) (fun z => absurd z (by decide)) q800 (fun h6 hM4 hs5 => ?_)
    refine aw_aload_n (pc' := 38) eX7_number_37 rfl rfl trivial ?_
    have hM8 := hM4
    rw [show msc (mp U p) 11 ((mp U p).2.1 11 + 1) = mp U (p.1 + 1, p.2) from mp_at U p (p.1 + 1) (nI_1 p.1)] at hM8
    refine aw_callv (pc' := 41) (nn := 0) (c_X7_isDigit (d := d - 1) hM8 hn (show p.1 + 1 ≤ n by omega) (by omega)) eX7_number_38 rfl ⟨q933, q936, q62⟩ q935 q30 ⟨rfl, by decide +kernel, by decide +kernel, by decide +kernel⟩ rfl (by rw [hM8.2.1]; exact ⟨rfl, rfl⟩) rfl ⟨by omega, by decide⟩ ⟨by omega, by omega⟩ rfl (Nat.le_of_ble_eq_true rfl) (fun v7 h8 hq9 => ?_)
    obtain ⟨rfl, rfl⟩ := hq9
    dsimp only [Option.toList, List.cons_append, List.nil_append]
    refine aw_if_eq (pc' := 44) (tgt := 72) eX7_number_41 rfl (by decide) (fun c_41 => ?_) (fun c_41 => ?_)
    · refine aw_iload_n (pc' := 73) eX7_number_72 rfl rfl ?_
      refine aw_ret (v := some (.int _)) eX7_number_73 ⟨rfl, rfl⟩ (by omega) (by omega) rfl ?_
      try simp only [zb_eq0, Bool.not_eq_false, Bool.not_eq_true, decide_eq_true_eq, decide_eq_false_iff_not, Decidable.not_not] at c_41
      have hM9 := hM8
      first
        | (rw [show msc (mp U (p.1 + 1, p.2)) 11 ((mp U (p.1 + 1, p.2)).2.1 11 + 1) = mp U (p.1 + 2, p.2) from mp_at U (p.1 + 1, p.2) (p.1 + 2) (nI_1 (p.1 + 1))] at hM9
           exact ⟨by rw [pNum, if_pos c_4, if_pos c_41]; rfl, by rw [pNum, if_pos c_4, if_pos c_41]; exact hM9, hs5⟩)
        | exact ⟨by rw [pNum, if_pos c_4, if_neg (by rw [c_41]; decide)]; rfl, by rw [pNum, if_pos c_4, if_neg (by rw [c_41]; decide)]; exact hM9, hs5⟩
    · simp only [zb_eq0, Bool.not_eq_false, Bool.not_eq_true, decide_eq_true_eq, decide_eq_false_iff_not, Decidable.not_not] at c_41
      have d9 : p.1 + 1 < n := pDg_lt c_41
      refine aw_bipush (pc' := 46) (v := 10) eX7_number_44 rfl (by decide) ?_
      refine aw_iload_n (pc' := 47) eX7_number_46 rfl rfl ?_
      refine aw_imul (pc' := 48) eX7_number_47 rfl ?_
      refine aw_aload_n (pc' := 49) eX7_number_48 rfl rfl trivial ?_
      refine aw_Mref (pc' := 52) (kf := 9) 7 hM8 eX7_number_49 rfl (by decide) rfl q798 ?_
      refine aw_aload_n (pc' := 53) eX7_number_52 rfl rfl trivial ?_
      refine aw_Mint (pc' := 56) (kf := 11) hM8 eX7_number_53 rfl (by decide) q800 ?_
      refine aw_MaldC (pc' := 57) 7 (p.1 + 1) hM8 eX7_number_56 rfl (by decide) (show vp_in _ 100 from vp_in_nI (n := p.1 + 1) (by omega) (by omega)) (nI_clamp (n := p.1 + 1) (by omega)) ?_
      refine aw_iadd (pc' := 58) eX7_number_57 rfl ?_
      refine aw_bipush (pc' := 60) (v := 48) eX7_number_58 rfl (by decide) ?_
      refine aw_isub (pc' := 61) eX7_number_60 rfl ?_
      refine aw_istore_n (pc' := 62) eX7_number_61 rfl (by decide) ?_
      dsimp only [zst, zst2, zcut]
      refine aw_aload_n (pc' := 63) eX7_number_62 rfl rfl trivial ?_
      refine aw_dup (pc' := 64) eX7_number_63 rfl rfl ?_
      refine aw_Mint (pc' := 67) (kf := 11) hM8 eX7_number_64 rfl (by decide) q800 ?_
      refine aw_iconst (pc' := 68) (v := 1) eX7_number_67 rfl (by decide) ?_
      refine aw_iadd (pc' := 69) eX7_number_68 rfl ?_
      refine aw_Mput (pc' := 72) 11 hM8 eX7_number_69 rfl (by decide) (fun z => absurd z (by decide)) q800 (fun h12 hM10 hs11 => ?_)
      have hT13 := hs5.tr hs11
      refine aw_iload_n (pc' := 73) eX7_number_72 rfl rfl ?_
      refine aw_ret (v := some (.int _)) eX7_number_73 ⟨rfl, rfl⟩ (by omega) (by omega) rfl ?_
      try simp only [zb_eq0, Bool.not_eq_false, Bool.not_eq_true, decide_eq_true_eq, decide_eq_false_iff_not, Decidable.not_not] at c_41
      have hM9 := hM10
      first
        | (rw [show msc (mp U (p.1 + 1, p.2)) 11 ((mp U (p.1 + 1, p.2)).2.1 11 + 1) = mp U (p.1 + 2, p.2) from mp_at U (p.1 + 1, p.2) (p.1 + 2) (nI_1 (p.1 + 1))] at hM9
           exact ⟨by rw [pNum, if_pos c_4, if_pos c_41]; rfl, by rw [pNum, if_pos c_4, if_pos c_41]; exact hM9, hT13⟩)
        | exact ⟨by rw [pNum, if_pos c_4, if_neg (by rw [c_41]; decide)]; rfl, by rw [pNum, if_pos c_4, if_neg (by rw [c_41]; decide)]; exact hM9, hT13⟩
  · refine aw_aload_n (pc' := 8) eX7_number_7 rfl rfl trivial ?_
    refine aw_iconst (pc' := 9) (v := 0) eX7_number_8 rfl (by decide) ?_
    refine aw_Mput (pc' := 12) 12 hM eX7_number_9 rfl (by decide) (fun _ => by decide) q801 (fun h16 hM14 hs15 => ?_)
    refine aw_iconst (pc' := 13) (v := 0) eX7_number_12 rfl (by decide) ?_
    refine aw_ret (v := some (.int _)) eX7_number_13 ⟨rfl, rfl⟩ (by omega) (by omega) rfl ?_
    simp only [zb_eq0, Bool.not_eq_false, Bool.not_eq_true, decide_eq_true_eq, decide_eq_false_iff_not, Decidable.not_not] at c_4
    have hM9 := hM14
    rw [mp_well U p false (x := 0) rfl] at hM9
    exact ⟨by rw [pNum, if_neg (by rw [c_4]; decide)], by rw [pNum, if_neg (by rw [c_4]; decide)]; exact hM9, hs15⟩
end M7
end
section
/-! the model's parser: a test, and what joins them -/
section M8
variable {l : Launch} {G : GT} {d u : Nat} {h : Hp} {U : MS} {Q : Option Value → Hp → Prop}
/-- which letter stands there -/
def pNm (R : Nat → Int32) (n : Nat) (L : Nat → Int32) (p : PP) : Nat → Int32
  | 0 => -1
  | k + 1 => if pAt R n p (L k) = true then nI k else pNm R n L p k
theorem pNm_lt {R : Nat → Int32} {n : Nat} {L : Nat → Int32} {p : PP} : ∀ {k : Nat}, pNm R n L p k ≠ -1 → p.1 < n ∧ ∃ j, j < k ∧ pNm R n L p k = nI j
  | 0, h => absurd rfl h
  | k + 1, h => by
    unfold pNm at h ⊢
    by_cases c : pAt R n p (L k) = true
    · rw [if_pos c]
      exact ⟨pAt_lt c, k, by omega, rfl⟩
    · rw [if_neg c] at h ⊢
      obtain ⟨h1, j, h2, h3⟩ := pNm_lt h
      exact ⟨h1, j, by omega, h3⟩
/-- what a test compares by -/
def pCm (R : Nat → Int32) (n : Nat) (p : PP) : Int32 := if pAt R n p 60 = true then -1 else if pAt R n p 62 = true then 1 else 0
def pSg (c : Int32) : Int32 := if c < 0 then 60 else if 0 < c then 62 else 61
def pRs (c x y : Int32) : Bool := if c < 0 then decide (x < y) else if 0 < c then decide (y < x) else decide (x = y)
def pTest (R : Nat → Int32) (n : Nat) (L N : Nat → Int32) (p : PP) : Bool × PP :=
  if pNm R n L p 6 = -1 then (false, (p.1, false)) else
    (pRs (pCm R n (p.1 + 1, p.2)) (N (pNm R n L p 6).toNatClampNeg) (pNum R n (pTk R n (p.1 + 1, p.2) (pSg (pCm R n (p.1 + 1, p.2))))).1, (pNum R n (pTk R n (p.1 + 1, p.2) (pSg (pCm R n (p.1 + 1, p.2))))).2)
theorem pTest_le {R : Nat → Int32} {n : Nat} {L N : Nat → Int32} {p : PP} (h : p.1 ≤ n) : (pTest R n L N p).2.1 ≤ n := by
  unfold pTest
  split
  · exact h
  · rename_i z
    have := (pNm_lt z).1
    exact pNum_le (pTk_le (by show p.1 + 1 ≤ n; omega))

abbrev mX7_test : MT := (RX7, cX7_test, 4, (some .boolean), false)
theorem eX7_test_0 : decode mX7_test.2.1 0 = .ok (.iconst (-1), 1) := by decide +kernel
theorem eX7_test_1 : decode mX7_test.2.1 1 = .ok (.istore_n 1, 1) := by decide +kernel
theorem eX7_test_2 : decode mX7_test.2.1 2 = .ok (.iconst 0, 1) := by decide +kernel
theorem eX7_test_3 : decode mX7_test.2.1 3 = .ok (.istore_n 2, 1) := by decide +kernel
theorem eX7_test_4 : decode mX7_test.2.1 4 = .ok (.iload_n 2, 1) := by decide +kernel
theorem eX7_test_5 : decode mX7_test.2.1 5 = .ok (.bipush 6, 2) := by decide +kernel
theorem eX7_test_7 : decode mX7_test.2.1 7 = .ok (.if_icmp .ge 28, 3) := by decide +kernel
theorem eX7_test_10 : decode mX7_test.2.1 10 = .ok (.aload_n 0, 1) := by decide +kernel
theorem eX7_test_11 : decode mX7_test.2.1 11 = .ok (.aload_n 0, 1) := by decide +kernel
theorem eX7_test_12 : decode mX7_test.2.1 12 = .ok (.getfield 40, 3) := by decide +kernel
theorem eX7_test_15 : decode mX7_test.2.1 15 = .ok (.iload_n 2, 1) := by decide +kernel
theorem eX7_test_16 : decode mX7_test.2.1 16 = .ok (.caload, 1) := by decide +kernel
theorem eX7_test_17 : decode mX7_test.2.1 17 = .ok (.invokevirtual 136, 3) := by decide +kernel
theorem eX7_test_20 : decode mX7_test.2.1 20 = .ok (.ifCond .eq 7, 3) := by decide +kernel
theorem eX7_test_23 : decode mX7_test.2.1 23 = .ok (.iload_n 2, 1) := by decide +kernel
theorem eX7_test_24 : decode mX7_test.2.1 24 = .ok (.goto 4, 3) := by decide +kernel
theorem eX7_test_27 : decode mX7_test.2.1 27 = .ok (.iload_n 1, 1) := by decide +kernel
theorem eX7_test_28 : decode mX7_test.2.1 28 = .ok (.istore_n 1, 1) := by decide +kernel
theorem eX7_test_29 : decode mX7_test.2.1 29 = .ok (.iinc 2 1, 3) := by decide +kernel
theorem eX7_test_32 : decode mX7_test.2.1 32 = .ok (.goto (-28), 3) := by decide +kernel
theorem eX7_test_35 : decode mX7_test.2.1 35 = .ok (.iload_n 1, 1) := by decide +kernel
theorem eX7_test_36 : decode mX7_test.2.1 36 = .ok (.iconst (-1), 1) := by decide +kernel
theorem eX7_test_37 : decode mX7_test.2.1 37 = .ok (.if_icmp .ne 10, 3) := by decide +kernel
theorem eX7_test_40 : decode mX7_test.2.1 40 = .ok (.aload_n 0, 1) := by decide +kernel
theorem eX7_test_41 : decode mX7_test.2.1 41 = .ok (.iconst 0, 1) := by decide +kernel
theorem eX7_test_42 : decode mX7_test.2.1 42 = .ok (.putfield 127, 3) := by decide +kernel
theorem eX7_test_45 : decode mX7_test.2.1 45 = .ok (.iconst 0, 1) := by decide +kernel
theorem eX7_test_46 : decode mX7_test.2.1 46 = .ok (.ireturn, 1) := by decide +kernel
theorem eX7_test_47 : decode mX7_test.2.1 47 = .ok (.aload_n 0, 1) := by decide +kernel
theorem eX7_test_48 : decode mX7_test.2.1 48 = .ok (.dup, 1) := by decide +kernel
theorem eX7_test_49 : decode mX7_test.2.1 49 = .ok (.getfield 130, 3) := by decide +kernel
theorem eX7_test_52 : decode mX7_test.2.1 52 = .ok (.iconst 1, 1) := by decide +kernel
theorem eX7_test_53 : decode mX7_test.2.1 53 = .ok (.iadd, 1) := by decide +kernel
theorem eX7_test_54 : decode mX7_test.2.1 54 = .ok (.putfield 130, 3) := by decide +kernel
theorem eX7_test_57 : decode mX7_test.2.1 57 = .ok (.aload_n 0, 1) := by decide +kernel
theorem eX7_test_58 : decode mX7_test.2.1 58 = .ok (.bipush 60, 2) := by decide +kernel
theorem eX7_test_60 : decode mX7_test.2.1 60 = .ok (.invokevirtual 136, 3) := by decide +kernel
theorem eX7_test_63 : decode mX7_test.2.1 63 = .ok (.ifCond .eq 7, 3) := by decide +kernel
theorem eX7_test_66 : decode mX7_test.2.1 66 = .ok (.iconst (-1), 1) := by decide +kernel
theorem eX7_test_67 : decode mX7_test.2.1 67 = .ok (.goto 17, 3) := by decide +kernel
theorem eX7_test_70 : decode mX7_test.2.1 70 = .ok (.aload_n 0, 1) := by decide +kernel
theorem eX7_test_71 : decode mX7_test.2.1 71 = .ok (.bipush 62, 2) := by decide +kernel
theorem eX7_test_73 : decode mX7_test.2.1 73 = .ok (.invokevirtual 136, 3) := by decide +kernel
theorem eX7_test_76 : decode mX7_test.2.1 76 = .ok (.ifCond .eq 7, 3) := by decide +kernel
theorem eX7_test_79 : decode mX7_test.2.1 79 = .ok (.iconst 1, 1) := by decide +kernel
theorem eX7_test_80 : decode mX7_test.2.1 80 = .ok (.goto 4, 3) := by decide +kernel
theorem eX7_test_83 : decode mX7_test.2.1 83 = .ok (.iconst 0, 1) := by decide +kernel
theorem eX7_test_84 : decode mX7_test.2.1 84 = .ok (.istore_n 2, 1) := by decide +kernel
theorem eX7_test_85 : decode mX7_test.2.1 85 = .ok (.aload_n 0, 1) := by decide +kernel
theorem eX7_test_86 : decode mX7_test.2.1 86 = .ok (.iload_n 2, 1) := by decide +kernel
theorem eX7_test_87 : decode mX7_test.2.1 87 = .ok (.ifCond .ge 8, 3) := by decide +kernel
theorem eX7_test_90 : decode mX7_test.2.1 90 = .ok (.bipush 60, 2) := by decide +kernel
theorem eX7_test_92 : decode mX7_test.2.1 92 = .ok (.goto 14, 3) := by decide +kernel
theorem eX7_test_95 : decode mX7_test.2.1 95 = .ok (.iload_n 2, 1) := by decide +kernel
theorem eX7_test_96 : decode mX7_test.2.1 96 = .ok (.ifCond .le 8, 3) := by decide +kernel
theorem eX7_test_99 : decode mX7_test.2.1 99 = .ok (.bipush 62, 2) := by decide +kernel
theorem eX7_test_101 : decode mX7_test.2.1 101 = .ok (.goto 5, 3) := by decide +kernel
theorem eX7_test_104 : decode mX7_test.2.1 104 = .ok (.bipush 61, 2) := by decide +kernel
theorem eX7_test_106 : decode mX7_test.2.1 106 = .ok (.invokevirtual 143, 3) := by decide +kernel
theorem eX7_test_109 : decode mX7_test.2.1 109 = .ok (.aload_n 0, 1) := by decide +kernel
theorem eX7_test_110 : decode mX7_test.2.1 110 = .ok (.invokevirtual 146, 3) := by decide +kernel
theorem eX7_test_113 : decode mX7_test.2.1 113 = .ok (.istore_n 3, 1) := by decide +kernel
theorem eX7_test_114 : decode mX7_test.2.1 114 = .ok (.iload_n 2, 1) := by decide +kernel
theorem eX7_test_115 : decode mX7_test.2.1 115 = .ok (.ifCond .ge 21, 3) := by decide +kernel
theorem eX7_test_118 : decode mX7_test.2.1 118 = .ok (.aload_n 0, 1) := by decide +kernel
theorem eX7_test_119 : decode mX7_test.2.1 119 = .ok (.getfield 37, 3) := by decide +kernel
theorem eX7_test_122 : decode mX7_test.2.1 122 = .ok (.iload_n 1, 1) := by decide +kernel
theorem eX7_test_123 : decode mX7_test.2.1 123 = .ok (.iaload, 1) := by decide +kernel
theorem eX7_test_124 : decode mX7_test.2.1 124 = .ok (.iload_n 3, 1) := by decide +kernel
theorem eX7_test_125 : decode mX7_test.2.1 125 = .ok (.if_icmp .ge 7, 3) := by decide +kernel
theorem eX7_test_128 : decode mX7_test.2.1 128 = .ok (.iconst 1, 1) := by decide +kernel
theorem eX7_test_129 : decode mX7_test.2.1 129 = .ok (.goto 44, 3) := by decide +kernel
theorem eX7_test_132 : decode mX7_test.2.1 132 = .ok (.iconst 0, 1) := by decide +kernel
theorem eX7_test_133 : decode mX7_test.2.1 133 = .ok (.goto 40, 3) := by decide +kernel
theorem eX7_test_136 : decode mX7_test.2.1 136 = .ok (.iload_n 2, 1) := by decide +kernel
theorem eX7_test_137 : decode mX7_test.2.1 137 = .ok (.ifCond .le 21, 3) := by decide +kernel
theorem eX7_test_140 : decode mX7_test.2.1 140 = .ok (.aload_n 0, 1) := by decide +kernel
theorem eX7_test_141 : decode mX7_test.2.1 141 = .ok (.getfield 37, 3) := by decide +kernel
theorem eX7_test_144 : decode mX7_test.2.1 144 = .ok (.iload_n 1, 1) := by decide +kernel
theorem eX7_test_145 : decode mX7_test.2.1 145 = .ok (.iaload, 1) := by decide +kernel
theorem eX7_test_146 : decode mX7_test.2.1 146 = .ok (.iload_n 3, 1) := by decide +kernel
theorem eX7_test_147 : decode mX7_test.2.1 147 = .ok (.if_icmp .le 7, 3) := by decide +kernel
theorem eX7_test_150 : decode mX7_test.2.1 150 = .ok (.iconst 1, 1) := by decide +kernel
theorem eX7_test_151 : decode mX7_test.2.1 151 = .ok (.goto 22, 3) := by decide +kernel
theorem eX7_test_154 : decode mX7_test.2.1 154 = .ok (.iconst 0, 1) := by decide +kernel
theorem eX7_test_155 : decode mX7_test.2.1 155 = .ok (.goto 18, 3) := by decide +kernel
theorem eX7_test_158 : decode mX7_test.2.1 158 = .ok (.aload_n 0, 1) := by decide +kernel
theorem eX7_test_159 : decode mX7_test.2.1 159 = .ok (.getfield 37, 3) := by decide +kernel
theorem eX7_test_162 : decode mX7_test.2.1 162 = .ok (.iload_n 1, 1) := by decide +kernel
theorem eX7_test_163 : decode mX7_test.2.1 163 = .ok (.iaload, 1) := by decide +kernel
theorem eX7_test_164 : decode mX7_test.2.1 164 = .ok (.iload_n 3, 1) := by decide +kernel
theorem eX7_test_165 : decode mX7_test.2.1 165 = .ok (.if_icmp .ne 7, 3) := by decide +kernel
theorem eX7_test_168 : decode mX7_test.2.1 168 = .ok (.iconst 1, 1) := by decide +kernel
theorem eX7_test_169 : decode mX7_test.2.1 169 = .ok (.goto 4, 3) := by decide +kernel
theorem eX7_test_172 : decode mX7_test.2.1 172 = .ok (.iconst 0, 1) := by decide +kernel
theorem eX7_test_173 : decode mX7_test.2.1 173 = .ok (.ireturn, 1) := by decide +kernel
theorem lp_X7_test {n : Nat} {p : PP} (hM : MAt h u (mp U p)) (hn : pOk U n) (ha : p.1 ≤ n) (hd : 1 ≤ d) (hQ : AW l G mX7_test d 0 0 Q 0 0 h [some (.ref u), some (.int (pNm (U.1 7) n (U.1 9) p 6)), some (.int (nI 6)), none] [] 35) : ∀ (k i : Nat) (x y : Int32), k = 6 - i → i ≤ 6 → x = pNm (U.1 7) n (U.1 9) p i → y = nI i → AW l G mX7_test d 0 0 Q 0 0 h [some (.ref u), some (.int x), some (.int y), none] [] 4 := by
  intro k
  induction k using Nat.strongRecOn with
  | _ k ih =>
    intro i x y hk hi hx hy
    subst hx
    subst hy
    refine aw_iload_n (pc' := 5) eX7_test_4 rfl rfl ?_
    refine aw_bipush (pc' := 7) (v := 6) eX7_test_5 rfl (by decide) ?_
    refine aw_icmp_ge (pc' := 10) (tgt := 35) eX7_test_7 rfl (by decide) (fun c_7 => ?_) (fun c_7 => ?_)
    · have c9 : 6 ≤ i := ge_nI (a := i) (b := 6) (by omega) (by omega) c_7
      obtain rfl : i = 6 := by omega
      exact hQ
    · have c9 := nge_nI (b := 6) (by omega) (by omega) c_7
      refine aw_aload_n (pc' := 11) eX7_test_10 rfl rfl trivial ?_
      refine aw_aload_n (pc' := 12) eX7_test_11 rfl rfl trivial ?_
      refine aw_Mref (pc' := 15) (kf := 17) 9 hM eX7_test_12 rfl (by decide) rfl q806 ?_
      refine aw_iload_n (pc' := 16) eX7_test_15 rfl rfl ?_
      refine aw_Mcld (pc' := 17) 9 hM eX7_test_16 rfl (by decide) (show vp_in _ 6 from vp_in_nI c9 (by omega)) ?_
      refine aw_callv (pc' := 20) (nn := 1) (c_X7_isAt (d := d - 1) hM hn ha _ (by omega)) eX7_test_17 rfl ⟨q921, q924, q62⟩ q923 q27 ⟨rfl, by decide +kernel, by decide +kernel, by decide +kernel⟩ rfl (by rw [hM.2.1]; exact ⟨rfl, rfl⟩) rfl ⟨by omega, by decide⟩ ⟨by omega, by omega⟩ rfl (Nat.le_of_ble_eq_true rfl) (fun v1 h2 hq3 => ?_)
      obtain ⟨rfl, rfl⟩ := hq3
      dsimp only [Option.toList, List.cons_append, List.nil_append]
      refine aw_if_eq (pc' := 23) (tgt := 27) eX7_test_20 rfl (by decide) (fun c_20 => ?_) (fun c_20 => ?_)
      · refine aw_iload_n (pc' := 28) eX7_test_27 rfl rfl ?_
        refine aw_istore_n (pc' := 29) eX7_test_28 rfl (by decide) ?_
        dsimp only [zst, zst2, zcut]
        refine aw_iinc (pc' := 32) eX7_test_29 rfl rfl rfl (by decide) ?_
        dsimp only [zst, zst2, zcut]
        refine aw_goto eX7_test_32 (by decide) (tgt := 4) ?_
        exact ih (6 - (i + 1)) (by omega) (i + 1) _ _ rfl (by omega) (by simp only [zb_eq0, Bool.not_eq_false, Bool.not_eq_true, decide_eq_true_eq, decide_eq_false_iff_not, Decidable.not_not, nI_clamp (show i < 2 ^ 31 by omega)] at c_20; rw [pNm]; first | exact (if_pos c_20).symm | exact (if_neg (by rw [show (mp U p).1 = U.1 from rfl] at c_20; rw [c_20]; decide)).symm) (nI_inc i)
      · refine aw_iload_n (pc' := 24) eX7_test_23 rfl rfl ?_
        refine aw_goto eX7_test_24 (by decide) (tgt := 28) ?_
        refine aw_istore_n (pc' := 29) eX7_test_28 rfl (by decide) ?_
        dsimp only [zst, zst2, zcut]
        refine aw_iinc (pc' := 32) eX7_test_29 rfl rfl rfl (by decide) ?_
        dsimp only [zst, zst2, zcut]
        refine aw_goto eX7_test_32 (by decide) (tgt := 4) ?_
        exact ih (6 - (i + 1)) (by omega) (i + 1) _ _ rfl (by omega) (by simp only [zb_eq0, Bool.not_eq_false, Bool.not_eq_true, decide_eq_true_eq, decide_eq_false_iff_not, Decidable.not_not, nI_clamp (show i < 2 ^ 31 by omega)] at c_20; rw [pNm]; first | exact (if_pos c_20).symm | exact (if_neg (by rw [show (mp U p).1 = U.1 from rfl] at c_20; rw [c_20]; decide)).symm) (nI_inc i)
theorem c_X7_test {n : Nat} {p : PP} (hM : MAt h u (mp U p)) (hn : pOk U n) (ha : p.1 ≤ n) (hd : 2 ≤ d) : Ct l G mX7_test yX7_test d 0 0 [.ref u] h (fun r h' => r = some (.int (zb (pTest (U.1 7) n (U.1 9) (U.1 8) p).1)) ∧ MAt h' u (mp U (pTest (U.1 7) n (U.1 9) (U.1 8) p).2) ∧ Same u 19 h h') := by
  refine ct_of (lv := [some (.ref u), none, none, none]) (by decide +kernel) rfl (fun z => by cases z) (fun _ => rfl) (fun _ => Nat.le_of_ble_eq_true rfl) ?_
  refine aw_iconst (pc' := 1) (v := -1) eX7_test_0 rfl (by decide) ?_
  refine aw_istore_n (pc' := 2) eX7_test_1 rfl (by decide) ?_
  dsimp only [zst, zst2, zcut]
  refine aw_iconst (pc' := 3) (v := 0) eX7_test_2 rfl (by decide) ?_
  refine aw_istore_n (pc' := 4) eX7_test_3 rfl (by decide) ?_
  dsimp only [zst, zst2, zcut]
  refine lp_X7_test hM hn ha (by omega) ?_ 6 0 _ _ (by omega) (by omega) rfl rfl
  refine aw_iload_n (pc' := 36) eX7_test_35 rfl rfl ?_
  refine aw_iconst (pc' := 37) (v := -1) eX7_test_36 rfl (by decide) ?_
  refine aw_icmp_ne (pc' := 40) (tgt := 47) eX7_test_37 rfl (by decide) (fun c_37 => ?_) (fun c_37 => ?_)
  · have q9 := pNm_lt c_37
    obtain ⟨j, hj, ej⟩ := q9.2
    have b9 := q9.1
    have n100 := hn.2
    have vj : vp_in (pNm (U.1 7) n (U.1 9) p 6) 6 := by rw [ej]; exact vp_in_nI hj (by omega)
    refine aw_aload_n (pc' := 48) eX7_test_47 rfl rfl trivial ?_
    refine aw_dup (pc' := 49) eX7_test_48 rfl rfl ?_
    refine aw_Mint (pc' := 52) (kf := 11) hM eX7_test_49 rfl (by decide) q800 ?_
    refine aw_iconst (pc' := 53) (v := 1) eX7_test_52 rfl (by decide) ?_
    refine aw_iadd (pc' := 54) eX7_test_53 rfl ?_
    refine aw_Mput (pc' := 57) 11 hM eX7_test_54 rfl (by decide) (fun z => absurd z (by decide)) q800 (fun h3 hM1 hs2 => ?_)
    have hM8 := hM1
    rw [show msc (mp U p) 11 ((mp U p).2.1 11 + 1) = mp U (p.1 + 1, p.2) from mp_at U p (p.1 + 1) (nI_1 p.1)] at hM8
    refine aw_aload_n (pc' := 58) eX7_test_57 rfl rfl trivial ?_
    refine aw_bipush (pc' := 60) (v := 60) eX7_test_58 rfl (by decide) ?_
    refine aw_callv (pc' := 63) (nn := 1) (c_X7_isAt (d := d - 1) hM8 hn (show p.1 + 1 ≤ n by omega) _ (by omega)) eX7_test_60 rfl ⟨q921, q924, q62⟩ q923 q27 ⟨rfl, by decide +kernel, by decide +kernel, by decide +kernel⟩ rfl (by rw [hM8.2.1]; exact ⟨rfl, rfl⟩) rfl ⟨by omega, by decide⟩ ⟨by omega, by omega⟩ rfl (Nat.le_of_ble_eq_true rfl) (fun v4 h5 hq6 => ?_)
    obtain ⟨rfl, rfl⟩ := hq6
    dsimp only [Option.toList, List.cons_append, List.nil_append]
    refine aw_if_eq (pc' := 66) (tgt := 70) eX7_test_63 rfl (by decide) (fun c_63 => ?_) (fun c_63 => ?_)
    · refine aw_aload_n (pc' := 71) eX7_test_70 rfl rfl trivial ?_
      refine aw_bipush (pc' := 73) (v := 62) eX7_test_71 rfl (by decide) ?_
      refine aw_callv (pc' := 76) (nn := 1) (c_X7_isAt (d := d - 1) hM8 hn (show p.1 + 1 ≤ n by omega) _ (by omega)) eX7_test_73 rfl ⟨q921, q924, q62⟩ q923 q27 ⟨rfl, by decide +kernel, by decide +kernel, by decide +kernel⟩ rfl (by rw [hM8.2.1]; exact ⟨rfl, rfl⟩) rfl ⟨by omega, by decide⟩ ⟨by omega, by omega⟩ rfl (Nat.le_of_ble_eq_true rfl) (fun v7 h8 hq9 => ?_)
      obtain ⟨rfl, rfl⟩ := hq9
      dsimp only [Option.toList, List.cons_append, List.nil_append]
      refine aw_if_eq (pc' := 79) (tgt := 83) eX7_test_76 rfl (by decide) (fun c_76 => ?_) (fun c_76 => ?_)
      · refine aw_iconst (pc' := 84) (v := 0) eX7_test_83 rfl (by decide) ?_
        refine aw_istore_n (pc' := 85) eX7_test_84 rfl (by decide) ?_
        dsimp only [zst, zst2, zcut]
        refine aw_aload_n (pc' := 86) eX7_test_85 rfl rfl trivial ?_
        refine aw_iload_n (pc' := 87) eX7_test_86 rfl rfl ?_
        refine aw_if_ge (pc' := 90) (tgt := 95) eX7_test_87 rfl (by decide) (fun c_87 => ?_) (fun c_87 => ?_)
        · refine aw_iload_n (pc' := 96) eX7_test_95 rfl rfl ?_
          refine aw_if_le (pc' := 99) (tgt := 104) eX7_test_96 rfl (by decide) (fun c_96 => ?_) (fun c_96 => ?_)
          · refine aw_bipush (pc' := 106) (v := 61) eX7_test_104 rfl (by decide) ?_
            refine aw_callv (pc' := 109) (nn := 1) (c_X7_takes (d := d - 1) hM8 hn (show p.1 + 1 ≤ n by omega) _ (by omega)) eX7_test_106 rfl ⟨q925, q928, q62⟩ q927 q28 ⟨rfl, by decide +kernel, by decide +kernel, by decide +kernel⟩ rfl (by rw [hM8.2.1]; exact ⟨rfl, rfl⟩) rfl ⟨by omega, by decide⟩ ⟨by omega, by omega⟩ rfl (Nat.le_of_ble_eq_true rfl) (fun v12 h13 hq14 => ?_)
            obtain ⟨rfl, hM10, hs11⟩ := hq14
            have hT15 := hs2.tr hs11
            dsimp only [Option.toList, List.cons_append, List.nil_append]
            refine aw_aload_n (pc' := 110) eX7_test_109 rfl rfl trivial ?_
            refine aw_callv (pc' := 113) (nn := 0) (c_X7_number (d := d - 1) hM10 hn (pTk_le (show p.1 + 1 ≤ n by omega)) (by omega)) eX7_test_110 rfl ⟨q929, q932, q62⟩ q931 q29 ⟨rfl, by decide +kernel, by decide +kernel, by decide +kernel⟩ rfl (by rw [hM10.2.1]; exact ⟨rfl, rfl⟩) rfl ⟨by omega, by decide⟩ ⟨by omega, by omega⟩ rfl (Nat.le_of_ble_eq_true rfl) (fun v18 h19 hq20 => ?_)
            obtain ⟨rfl, hM16, hs17⟩ := hq20
            have hT21 := hT15.tr hs17
            dsimp only [Option.toList, List.cons_append, List.nil_append]
            refine aw_istore_n (pc' := 114) eX7_test_113 rfl (by decide) ?_
            dsimp only [zst, zst2, zcut]
            refine aw_iload_n (pc' := 115) eX7_test_114 rfl rfl ?_
            refine aw_if_ge (pc' := 118) (tgt := 136) eX7_test_115 rfl (by decide) (fun c_115 => ?_) (fun c_115 => ?_)
            · refine aw_iload_n (pc' := 137) eX7_test_136 rfl rfl ?_
              refine aw_if_le (pc' := 140) (tgt := 158) eX7_test_137 rfl (by decide) (fun c_137 => ?_) (fun c_137 => ?_)
              · refine aw_aload_n (pc' := 159) eX7_test_158 rfl rfl trivial ?_
                refine aw_Mref (pc' := 162) (kf := 16) 8 hM16 eX7_test_159 rfl (by decide) rfl q805 ?_
                refine aw_iload_n (pc' := 163) eX7_test_162 rfl rfl ?_
                refine aw_MaldC (pc' := 164) 8 _ hM16 eX7_test_163 rfl (by decide) vj rfl ?_
                refine aw_iload_n (pc' := 165) eX7_test_164 rfl rfl ?_
                refine aw_icmp_ne (pc' := 168) (tgt := 172) eX7_test_165 rfl (by decide) (fun c_165 => ?_) (fun c_165 => ?_)
                · refine aw_iconst (pc' := 173) (v := 0) eX7_test_172 rfl (by decide) ?_
                  refine aw_ret (v := some (.int _)) eX7_test_173 ⟨rfl, rfl⟩ (by omega) (by omega) rfl ?_
                  try simp only [zb_eq0, Bool.not_eq_false, Bool.not_eq_true, decide_eq_true_eq, decide_eq_false_iff_not, Decidable.not_not] at c_63
                  try simp only [zb_eq0, Bool.not_eq_false, Bool.not_eq_true, decide_eq_true_eq, decide_eq_false_iff_not, Decidable.not_not] at c_76
                  first
                    | have ec : pCm (U.1 7) n (p.1 + 1, p.2) = 1 := by rw [pCm, if_neg (by rw [c_63]; decide), if_pos c_76]
                      exact ⟨by rw [pTest, if_neg c_37, ec]; have cl := c_165; simp only [show ∀ q, (mp U q).1 = U.1 from fun _ => rfl, i32_nlt, i32_nle, ge_iff_le, gt_iff_lt, ne_eq, Decidable.not_not] at cl; simp [pRs, zb, cl, i32_nlt, i32_nle, show pSg (-1) = 60 from rfl, show pSg 1 = 62 from rfl, show pSg 0 = 61 from rfl, show ∀ q, (mp U q).1 = U.1 from fun _ => rfl], by rw [pTest, if_neg c_37, ec]; exact hM16, hT21⟩
                    | have ec : pCm (U.1 7) n (p.1 + 1, p.2) = 0 := by rw [pCm, if_neg (by rw [c_63]; decide), if_neg (by rw [c_76]; decide)]
                      exact ⟨by rw [pTest, if_neg c_37, ec]; have cl := c_165; simp only [show ∀ q, (mp U q).1 = U.1 from fun _ => rfl, i32_nlt, i32_nle, ge_iff_le, gt_iff_lt, ne_eq, Decidable.not_not] at cl; simp [pRs, zb, cl, i32_nlt, i32_nle, show pSg (-1) = 60 from rfl, show pSg 1 = 62 from rfl, show pSg 0 = 61 from rfl, show ∀ q, (mp U q).1 = U.1 from fun _ => rfl], by rw [pTest, if_neg c_37, ec]; exact hM16, hT21⟩
                  
                · refine aw_iconst (pc' := 169) (v := 1) eX7_test_168 rfl (by decide) ?_
                  refine aw_goto eX7_test_169 (by decide) (tgt := 173) ?_
                  refine aw_ret (v := some (.int _)) eX7_test_173 ⟨rfl, rfl⟩ (by omega) (by omega) rfl ?_
                  try simp only [zb_eq0, Bool.not_eq_false, Bool.not_eq_true, decide_eq_true_eq, decide_eq_false_iff_not, Decidable.not_not] at c_63
                  try simp only [zb_eq0, Bool.not_eq_false, Bool.not_eq_true, decide_eq_true_eq, decide_eq_false_iff_not, Decidable.not_not] at c_76
                  first
                    | have ec : pCm (U.1 7) n (p.1 + 1, p.2) = 1 := by rw [pCm, if_neg (by rw [c_63]; decide), if_pos c_76]
                      exact ⟨by rw [pTest, if_neg c_37, ec]; have cl := c_165; simp only [show ∀ q, (mp U q).1 = U.1 from fun _ => rfl, i32_nlt, i32_nle, ge_iff_le, gt_iff_lt, ne_eq, Decidable.not_not] at cl; simp [pRs, zb, cl, i32_nlt, i32_nle, show pSg (-1) = 60 from rfl, show pSg 1 = 62 from rfl, show pSg 0 = 61 from rfl, show ∀ q, (mp U q).1 = U.1 from fun _ => rfl], by rw [pTest, if_neg c_37, ec]; exact hM16, hT21⟩
                    | have ec : pCm (U.1 7) n (p.1 + 1, p.2) = 0 := by rw [pCm, if_neg (by rw [c_63]; decide), if_neg (by rw [c_76]; decide)]
                      exact ⟨by rw [pTest, if_neg c_37, ec]; have cl := c_165; simp only [show ∀ q, (mp U q).1 = U.1 from fun _ => rfl, i32_nlt, i32_nle, ge_iff_le, gt_iff_lt, ne_eq, Decidable.not_not] at cl; simp [pRs, zb, cl, i32_nlt, i32_nle, show pSg (-1) = 60 from rfl, show pSg 1 = 62 from rfl, show pSg 0 = 61 from rfl, show ∀ q, (mp U q).1 = U.1 from fun _ => rfl], by rw [pTest, if_neg c_37, ec]; exact hM16, hT21⟩
                  
              · exact absurd c_137 (by decide)
            · exact absurd c_115 (by decide)
          · exact absurd c_96 (by decide)
        · exact absurd c_87 (by decide)
      · refine aw_iconst (pc' := 80) (v := 1) eX7_test_79 rfl (by decide) ?_
        refine aw_goto eX7_test_80 (by decide) (tgt := 84) ?_
        refine aw_istore_n (pc' := 85) eX7_test_84 rfl (by decide) ?_
        dsimp only [zst, zst2, zcut]
        refine aw_aload_n (pc' := 86) eX7_test_85 rfl rfl trivial ?_
        refine aw_iload_n (pc' := 87) eX7_test_86 rfl rfl ?_
        refine aw_if_ge (pc' := 90) (tgt := 95) eX7_test_87 rfl (by decide) (fun c_87 => ?_) (fun c_87 => ?_)
        · refine aw_iload_n (pc' := 96) eX7_test_95 rfl rfl ?_
          refine aw_if_le (pc' := 99) (tgt := 104) eX7_test_96 rfl (by decide) (fun c_96 => ?_) (fun c_96 => ?_)
          · exact absurd c_96 (by decide)
          · refine aw_bipush (pc' := 101) (v := 62) eX7_test_99 rfl (by decide) ?_
            refine aw_goto eX7_test_101 (by decide) (tgt := 106) ?_
            refine aw_callv (pc' := 109) (nn := 1) (c_X7_takes (d := d - 1) hM8 hn (show p.1 + 1 ≤ n by omega) _ (by omega)) eX7_test_106 rfl ⟨q925, q928, q62⟩ q927 q28 ⟨rfl, by decide +kernel, by decide +kernel, by decide +kernel⟩ rfl (by rw [hM8.2.1]; exact ⟨rfl, rfl⟩) rfl ⟨by omega, by decide⟩ ⟨by omega, by omega⟩ rfl (Nat.le_of_ble_eq_true rfl) (fun v24 h25 hq26 => ?_)
            obtain ⟨rfl, hM22, hs23⟩ := hq26
            have hT27 := hs2.tr hs23
            dsimp only [Option.toList, List.cons_append, List.nil_append]
            refine aw_aload_n (pc' := 110) eX7_test_109 rfl rfl trivial ?_
            refine aw_callv (pc' := 113) (nn := 0) (c_X7_number (d := d - 1) hM22 hn (pTk_le (show p.1 + 1 ≤ n by omega)) (by omega)) eX7_test_110 rfl ⟨q929, q932, q62⟩ q931 q29 ⟨rfl, by decide +kernel, by decide +kernel, by decide +kernel⟩ rfl (by rw [hM22.2.1]; exact ⟨rfl, rfl⟩) rfl ⟨by omega, by decide⟩ ⟨by omega, by omega⟩ rfl (Nat.le_of_ble_eq_true rfl) (fun v30 h31 hq32 => ?_)
            obtain ⟨rfl, hM28, hs29⟩ := hq32
            have hT33 := hT27.tr hs29
            dsimp only [Option.toList, List.cons_append, List.nil_append]
            refine aw_istore_n (pc' := 114) eX7_test_113 rfl (by decide) ?_
            dsimp only [zst, zst2, zcut]
            refine aw_iload_n (pc' := 115) eX7_test_114 rfl rfl ?_
            refine aw_if_ge (pc' := 118) (tgt := 136) eX7_test_115 rfl (by decide) (fun c_115 => ?_) (fun c_115 => ?_)
            · refine aw_iload_n (pc' := 137) eX7_test_136 rfl rfl ?_
              refine aw_if_le (pc' := 140) (tgt := 158) eX7_test_137 rfl (by decide) (fun c_137 => ?_) (fun c_137 => ?_)
              · exact absurd c_137 (by decide)
              · refine aw_aload_n (pc' := 141) eX7_test_140 rfl rfl trivial ?_
                refine aw_Mref (pc' := 144) (kf := 16) 8 hM28 eX7_test_141 rfl (by decide) rfl q805 ?_
                refine aw_iload_n (pc' := 145) eX7_test_144 rfl rfl ?_
                refine aw_MaldC (pc' := 146) 8 _ hM28 eX7_test_145 rfl (by decide) vj rfl ?_
                refine aw_iload_n (pc' := 147) eX7_test_146 rfl rfl ?_
                refine aw_icmp_le (pc' := 150) (tgt := 154) eX7_test_147 rfl (by decide) (fun c_147 => ?_) (fun c_147 => ?_)
                · refine aw_iconst (pc' := 155) (v := 0) eX7_test_154 rfl (by decide) ?_
                  refine aw_goto eX7_test_155 (by decide) (tgt := 173) ?_
                  refine aw_ret (v := some (.int _)) eX7_test_173 ⟨rfl, rfl⟩ (by omega) (by omega) rfl ?_
                  try simp only [zb_eq0, Bool.not_eq_false, Bool.not_eq_true, decide_eq_true_eq, decide_eq_false_iff_not, Decidable.not_not] at c_63
                  try simp only [zb_eq0, Bool.not_eq_false, Bool.not_eq_true, decide_eq_true_eq, decide_eq_false_iff_not, Decidable.not_not] at c_76
                  first
                    | have ec : pCm (U.1 7) n (p.1 + 1, p.2) = 1 := by rw [pCm, if_neg (by rw [c_63]; decide), if_pos c_76]
                      exact ⟨by rw [pTest, if_neg c_37, ec]; have cl := c_147; simp only [show ∀ q, (mp U q).1 = U.1 from fun _ => rfl, i32_nlt, i32_nle, ge_iff_le, gt_iff_lt, ne_eq, Decidable.not_not] at cl; simp [pRs, zb, cl, i32_nlt, i32_nle, show pSg (-1) = 60 from rfl, show pSg 1 = 62 from rfl, show pSg 0 = 61 from rfl, show ∀ q, (mp U q).1 = U.1 from fun _ => rfl], by rw [pTest, if_neg c_37, ec]; exact hM28, hT33⟩
                    | have ec : pCm (U.1 7) n (p.1 + 1, p.2) = 0 := by rw [pCm, if_neg (by rw [c_63]; decide), if_neg (by rw [c_76]; decide)]
                      exact ⟨by rw [pTest, if_neg c_37, ec]; have cl := c_147; simp only [show ∀ q, (mp U q).1 = U.1 from fun _ => rfl, i32_nlt, i32_nle, ge_iff_le, gt_iff_lt, ne_eq, Decidable.not_not] at cl; simp [pRs, zb, cl, i32_nlt, i32_nle, show pSg (-1) = 60 from rfl, show pSg 1 = 62 from rfl, show pSg 0 = 61 from rfl, show ∀ q, (mp U q).1 = U.1 from fun _ => rfl], by rw [pTest, if_neg c_37, ec]; exact hM28, hT33⟩
                  
                · refine aw_iconst (pc' := 151) (v := 1) eX7_test_150 rfl (by decide) ?_
                  refine aw_goto eX7_test_151 (by decide) (tgt := 173) ?_
                  refine aw_ret (v := some (.int _)) eX7_test_173 ⟨rfl, rfl⟩ (by omega) (by omega) rfl ?_
                  try simp only [zb_eq0, Bool.not_eq_false, Bool.not_eq_true, decide_eq_true_eq, decide_eq_false_iff_not, Decidable.not_not] at c_63
                  try simp only [zb_eq0, Bool.not_eq_false, Bool.not_eq_true, decide_eq_true_eq, decide_eq_false_iff_not, Decidable.not_not] at c_76
                  first
                    | have ec : pCm (U.1 7) n (p.1 + 1, p.2) = 1 := by rw [pCm, if_neg (by rw [c_63]; decide), if_pos c_76]
                      exact ⟨by rw [pTest, if_neg c_37, ec]; have cl := c_147; simp only [show ∀ q, (mp U q).1 = U.1 from fun _ => rfl, i32_nlt, i32_nle, ge_iff_le, gt_iff_lt, ne_eq, Decidable.not_not] at cl; simp [pRs, zb, cl, i32_nlt, i32_nle, show pSg (-1) = 60 from rfl, show pSg 1 = 62 from rfl, show pSg 0 = 61 from rfl, show ∀ q, (mp U q).1 = U.1 from fun _ => rfl], by rw [pTest, if_neg c_37, ec]; exact hM28, hT33⟩
                    | have ec : pCm (U.1 7) n (p.1 + 1, p.2) = 0 := by rw [pCm, if_neg (by rw [c_63]; decide), if_neg (by rw [c_76]; decide)]
                      exact ⟨by rw [pTest, if_neg c_37, ec]; have cl := c_147; simp only [show ∀ q, (mp U q).1 = U.1 from fun _ => rfl, i32_nlt, i32_nle, ge_iff_le, gt_iff_lt, ne_eq, Decidable.not_not] at cl; simp [pRs, zb, cl, i32_nlt, i32_nle, show pSg (-1) = 60 from rfl, show pSg 1 = 62 from rfl, show pSg 0 = 61 from rfl, show ∀ q, (mp U q).1 = U.1 from fun _ => rfl], by rw [pTest, if_neg c_37, ec]; exact hM28, hT33⟩
                  
            · exact absurd c_115 (by decide)
        · exact absurd c_87 (by decide)
    · refine aw_iconst (pc' := 67) (v := -1) eX7_test_66 rfl (by decide) ?_
      refine aw_goto eX7_test_67 (by decide) (tgt := 84) ?_
      refine aw_istore_n (pc' := 85) eX7_test_84 rfl (by decide) ?_
      dsimp only [zst, zst2, zcut]
      refine aw_aload_n (pc' := 86) eX7_test_85 rfl rfl trivial ?_
      refine aw_iload_n (pc' := 87) eX7_test_86 rfl rfl ?_
      refine aw_if_ge (pc' := 90) (tgt := 95) eX7_test_87 rfl (by decide) (fun c_87 => ?_) (fun c_87 => ?_)
      · exact absurd c_87 (by decide)
      · refine aw_bipush (pc' := 92) (v := 60) eX7_test_90 rfl (by decide) ?_
        refine aw_goto eX7_test_92 (by decide) (tgt := 106) ?_
        refine aw_callv (pc' := 109) (nn := 1) (c_X7_takes (d := d - 1) hM8 hn (show p.1 + 1 ≤ n by omega) _ (by omega)) eX7_test_106 rfl ⟨q925, q928, q62⟩ q927 q28 ⟨rfl, by decide +kernel, by decide +kernel, by decide +kernel⟩ rfl (by rw [hM8.2.1]; exact ⟨rfl, rfl⟩) rfl ⟨by omega, by decide⟩ ⟨by omega, by omega⟩ rfl (Nat.le_of_ble_eq_true rfl) (fun v36 h37 hq38 => ?_)
        obtain ⟨rfl, hM34, hs35⟩ := hq38
        have hT39 := hs2.tr hs35
        dsimp only [Option.toList, List.cons_append, List.nil_append]
        refine aw_aload_n (pc' := 110) eX7_test_109 rfl rfl trivial ?_
        refine aw_callv (pc' := 113) (nn := 0) (c_X7_number (d := d - 1) hM34 hn (pTk_le (show p.1 + 1 ≤ n by omega)) (by omega)) eX7_test_110 rfl ⟨q929, q932, q62⟩ q931 q29 ⟨rfl, by decide +kernel, by decide +kernel, by decide +kernel⟩ rfl (by rw [hM34.2.1]; exact ⟨rfl, rfl⟩) rfl ⟨by omega, by decide⟩ ⟨by omega, by omega⟩ rfl (Nat.le_of_ble_eq_true rfl) (fun v42 h43 hq44 => ?_)
        obtain ⟨rfl, hM40, hs41⟩ := hq44
        have hT45 := hT39.tr hs41
        dsimp only [Option.toList, List.cons_append, List.nil_append]
        refine aw_istore_n (pc' := 114) eX7_test_113 rfl (by decide) ?_
        dsimp only [zst, zst2, zcut]
        refine aw_iload_n (pc' := 115) eX7_test_114 rfl rfl ?_
        refine aw_if_ge (pc' := 118) (tgt := 136) eX7_test_115 rfl (by decide) (fun c_115 => ?_) (fun c_115 => ?_)
        · exact absurd c_115 (by decide)
        · refine aw_aload_n (pc' := 119) eX7_test_118 rfl rfl trivial ?_
          refine aw_Mref (pc' := 122) (kf := 16) 8 hM40 eX7_test_119 rfl (by decide) rfl q805 ?_
          refine aw_iload_n (pc' := 123) eX7_test_122 rfl rfl ?_
          refine aw_MaldC (pc' := 124) 8 _ hM40 eX7_test_123 rfl (by decide) vj rfl ?_
          refine aw_iload_n (pc' := 125) eX7_test_124 rfl rfl ?_
          refine aw_icmp_ge (pc' := 128) (tgt := 132) eX7_test_125 rfl (by decide) (fun c_125 => ?_) (fun c_125 => ?_)
          · refine aw_iconst (pc' := 133) (v := 0) eX7_test_132 rfl (by decide) ?_
            refine aw_goto eX7_test_133 (by decide) (tgt := 173) ?_
            refine aw_ret (v := some (.int _)) eX7_test_173 ⟨rfl, rfl⟩ (by omega) (by omega) rfl ?_
            try simp only [zb_eq0, Bool.not_eq_false, Bool.not_eq_true, decide_eq_true_eq, decide_eq_false_iff_not, Decidable.not_not] at c_63
            have ec : pCm (U.1 7) n (p.1 + 1, p.2) = -1 := by rw [pCm]; exact if_pos c_63
            exact ⟨by rw [pTest, if_neg c_37, ec]; have cl := c_125; simp only [show ∀ q, (mp U q).1 = U.1 from fun _ => rfl, i32_nlt, i32_nle, ge_iff_le, gt_iff_lt, ne_eq, Decidable.not_not] at cl; simp [pRs, zb, cl, i32_nlt, i32_nle, show pSg (-1) = 60 from rfl, show pSg 1 = 62 from rfl, show pSg 0 = 61 from rfl, show ∀ q, (mp U q).1 = U.1 from fun _ => rfl], by rw [pTest, if_neg c_37, ec]; exact hM40, hT45⟩
          · refine aw_iconst (pc' := 129) (v := 1) eX7_test_128 rfl (by decide) ?_
            refine aw_goto eX7_test_129 (by decide) (tgt := 173) ?_
            refine aw_ret (v := some (.int _)) eX7_test_173 ⟨rfl, rfl⟩ (by omega) (by omega) rfl ?_
            try simp only [zb_eq0, Bool.not_eq_false, Bool.not_eq_true, decide_eq_true_eq, decide_eq_false_iff_not, Decidable.not_not] at c_63
            have ec : pCm (U.1 7) n (p.1 + 1, p.2) = -1 := by rw [pCm]; exact if_pos c_63
            exact ⟨by rw [pTest, if_neg c_37, ec]; have cl := c_125; simp only [show ∀ q, (mp U q).1 = U.1 from fun _ => rfl, i32_nlt, i32_nle, ge_iff_le, gt_iff_lt, ne_eq, Decidable.not_not] at cl; simp [pRs, zb, cl, i32_nlt, i32_nle, show pSg (-1) = 60 from rfl, show pSg 1 = 62 from rfl, show pSg 0 = 61 from rfl, show ∀ q, (mp U q).1 = U.1 from fun _ => rfl], by rw [pTest, if_neg c_37, ec]; exact hM40, hT45⟩
  · refine aw_aload_n (pc' := 41) eX7_test_40 rfl rfl trivial ?_
    refine aw_iconst (pc' := 42) (v := 0) eX7_test_41 rfl (by decide) ?_
    refine aw_Mput (pc' := 45) 12 hM eX7_test_42 rfl (by decide) (fun _ => by decide) q801 (fun h48 hM46 hs47 => ?_)
    refine aw_iconst (pc' := 46) (v := 0) eX7_test_45 rfl (by decide) ?_
    refine aw_ret (v := some (.int _)) eX7_test_46 ⟨rfl, rfl⟩ (by omega) (by omega) rfl ?_
    have hM9 := hM46
    rw [mp_well U p false (x := 0) rfl] at hM9
    exact ⟨by rw [pTest, if_pos c_37]; rfl, by rw [pTest, if_pos c_37]; exact hM9, hs47⟩
end M8
end
section
abbrev mX7_any : MT := (RX7, cX7_any, 3, (some .boolean), false)
theorem eX7_any_0 : decode mX7_any.2.1 0 = .ok (.aload_n 0, 1) := by decide +kernel
theorem eX7_any_1 : decode mX7_any.2.1 1 = .ok (.invokevirtual 162, 3) := by decide +kernel
theorem eX7_any_4 : decode mX7_any.2.1 4 = .ok (.istore_n 1, 1) := by decide +kernel
theorem eX7_any_5 : decode mX7_any.2.1 5 = .ok (.aload_n 0, 1) := by decide +kernel
theorem eX7_any_6 : decode mX7_any.2.1 6 = .ok (.bipush 124, 2) := by decide +kernel
theorem eX7_any_8 : decode mX7_any.2.1 8 = .ok (.invokevirtual 136, 3) := by decide +kernel
theorem eX7_any_11 : decode mX7_any.2.1 11 = .ok (.ifCond .eq 35, 3) := by decide +kernel
theorem eX7_any_14 : decode mX7_any.2.1 14 = .ok (.aload_n 0, 1) := by decide +kernel
theorem eX7_any_15 : decode mX7_any.2.1 15 = .ok (.dup, 1) := by decide +kernel
theorem eX7_any_16 : decode mX7_any.2.1 16 = .ok (.getfield 130, 3) := by decide +kernel
theorem eX7_any_19 : decode mX7_any.2.1 19 = .ok (.iconst 1, 1) := by decide +kernel
theorem eX7_any_20 : decode mX7_any.2.1 20 = .ok (.iadd, 1) := by decide +kernel
theorem eX7_any_21 : decode mX7_any.2.1 21 = .ok (.putfield 130, 3) := by decide +kernel
theorem eX7_any_24 : decode mX7_any.2.1 24 = .ok (.aload_n 0, 1) := by decide +kernel
theorem eX7_any_25 : decode mX7_any.2.1 25 = .ok (.invokevirtual 162, 3) := by decide +kernel
theorem eX7_any_28 : decode mX7_any.2.1 28 = .ok (.istore_n 2, 1) := by decide +kernel
theorem eX7_any_29 : decode mX7_any.2.1 29 = .ok (.iload_n 1, 1) := by decide +kernel
theorem eX7_any_30 : decode mX7_any.2.1 30 = .ok (.ifCond .ne 7, 3) := by decide +kernel
theorem eX7_any_33 : decode mX7_any.2.1 33 = .ok (.iload_n 2, 1) := by decide +kernel
theorem eX7_any_34 : decode mX7_any.2.1 34 = .ok (.ifCond .eq 7, 3) := by decide +kernel
theorem eX7_any_37 : decode mX7_any.2.1 37 = .ok (.iconst 1, 1) := by decide +kernel
theorem eX7_any_38 : decode mX7_any.2.1 38 = .ok (.goto 4, 3) := by decide +kernel
theorem eX7_any_41 : decode mX7_any.2.1 41 = .ok (.iconst 0, 1) := by decide +kernel
theorem eX7_any_42 : decode mX7_any.2.1 42 = .ok (.istore_n 1, 1) := by decide +kernel
theorem eX7_any_43 : decode mX7_any.2.1 43 = .ok (.goto (-38), 3) := by decide +kernel
theorem eX7_any_46 : decode mX7_any.2.1 46 = .ok (.iload_n 1, 1) := by decide +kernel
theorem eX7_any_47 : decode mX7_any.2.1 47 = .ok (.ireturn, 1) := by decide +kernel
abbrev mX7_both : MT := (RX7, cX7_both, 3, (some .boolean), false)
theorem eX7_both_0 : decode mX7_both.2.1 0 = .ok (.aload_n 0, 1) := by decide +kernel
theorem eX7_both_1 : decode mX7_both.2.1 1 = .ok (.invokevirtual 153, 3) := by decide +kernel
theorem eX7_both_4 : decode mX7_both.2.1 4 = .ok (.istore_n 1, 1) := by decide +kernel
theorem eX7_both_5 : decode mX7_both.2.1 5 = .ok (.aload_n 0, 1) := by decide +kernel
theorem eX7_both_6 : decode mX7_both.2.1 6 = .ok (.bipush 38, 2) := by decide +kernel
theorem eX7_both_8 : decode mX7_both.2.1 8 = .ok (.invokevirtual 136, 3) := by decide +kernel
theorem eX7_both_11 : decode mX7_both.2.1 11 = .ok (.ifCond .eq 35, 3) := by decide +kernel
theorem eX7_both_14 : decode mX7_both.2.1 14 = .ok (.aload_n 0, 1) := by decide +kernel
theorem eX7_both_15 : decode mX7_both.2.1 15 = .ok (.dup, 1) := by decide +kernel
theorem eX7_both_16 : decode mX7_both.2.1 16 = .ok (.getfield 130, 3) := by decide +kernel
theorem eX7_both_19 : decode mX7_both.2.1 19 = .ok (.iconst 1, 1) := by decide +kernel
theorem eX7_both_20 : decode mX7_both.2.1 20 = .ok (.iadd, 1) := by decide +kernel
theorem eX7_both_21 : decode mX7_both.2.1 21 = .ok (.putfield 130, 3) := by decide +kernel
theorem eX7_both_24 : decode mX7_both.2.1 24 = .ok (.aload_n 0, 1) := by decide +kernel
theorem eX7_both_25 : decode mX7_both.2.1 25 = .ok (.invokevirtual 153, 3) := by decide +kernel
theorem eX7_both_28 : decode mX7_both.2.1 28 = .ok (.istore_n 2, 1) := by decide +kernel
theorem eX7_both_29 : decode mX7_both.2.1 29 = .ok (.iload_n 1, 1) := by decide +kernel
theorem eX7_both_30 : decode mX7_both.2.1 30 = .ok (.ifCond .eq 11, 3) := by decide +kernel
theorem eX7_both_33 : decode mX7_both.2.1 33 = .ok (.iload_n 2, 1) := by decide +kernel
theorem eX7_both_34 : decode mX7_both.2.1 34 = .ok (.ifCond .eq 7, 3) := by decide +kernel
theorem eX7_both_37 : decode mX7_both.2.1 37 = .ok (.iconst 1, 1) := by decide +kernel
theorem eX7_both_38 : decode mX7_both.2.1 38 = .ok (.goto 4, 3) := by decide +kernel
theorem eX7_both_41 : decode mX7_both.2.1 41 = .ok (.iconst 0, 1) := by decide +kernel
theorem eX7_both_42 : decode mX7_both.2.1 42 = .ok (.istore_n 1, 1) := by decide +kernel
theorem eX7_both_43 : decode mX7_both.2.1 43 = .ok (.goto (-38), 3) := by decide +kernel
theorem eX7_both_46 : decode mX7_both.2.1 46 = .ok (.iload_n 1, 1) := by decide +kernel
theorem eX7_both_47 : decode mX7_both.2.1 47 = .ok (.ireturn, 1) := by decide +kernel
abbrev mX7_factor : MT := (RX7, cX7_factor, 2, (some .boolean), false)
theorem eX7_factor_0 : decode mX7_factor.2.1 0 = .ok (.aload_n 0, 1) := by decide +kernel
theorem eX7_factor_1 : decode mX7_factor.2.1 1 = .ok (.getfield 150, 3) := by decide +kernel
theorem eX7_factor_4 : decode mX7_factor.2.1 4 = .ok (.iconst 4, 1) := by decide +kernel
theorem eX7_factor_5 : decode mX7_factor.2.1 5 = .ok (.if_icmp .ge 58, 3) := by decide +kernel
theorem eX7_factor_8 : decode mX7_factor.2.1 8 = .ok (.aload_n 0, 1) := by decide +kernel
theorem eX7_factor_9 : decode mX7_factor.2.1 9 = .ok (.bipush 33, 2) := by decide +kernel
theorem eX7_factor_11 : decode mX7_factor.2.1 11 = .ok (.invokevirtual 136, 3) := by decide +kernel
theorem eX7_factor_14 : decode mX7_factor.2.1 14 = .ok (.ifCond .eq 49, 3) := by decide +kernel
theorem eX7_factor_17 : decode mX7_factor.2.1 17 = .ok (.aload_n 0, 1) := by decide +kernel
theorem eX7_factor_18 : decode mX7_factor.2.1 18 = .ok (.dup, 1) := by decide +kernel
theorem eX7_factor_19 : decode mX7_factor.2.1 19 = .ok (.getfield 130, 3) := by decide +kernel
theorem eX7_factor_22 : decode mX7_factor.2.1 22 = .ok (.iconst 1, 1) := by decide +kernel
theorem eX7_factor_23 : decode mX7_factor.2.1 23 = .ok (.iadd, 1) := by decide +kernel
theorem eX7_factor_24 : decode mX7_factor.2.1 24 = .ok (.putfield 130, 3) := by decide +kernel
theorem eX7_factor_27 : decode mX7_factor.2.1 27 = .ok (.aload_n 0, 1) := by decide +kernel
theorem eX7_factor_28 : decode mX7_factor.2.1 28 = .ok (.dup, 1) := by decide +kernel
theorem eX7_factor_29 : decode mX7_factor.2.1 29 = .ok (.getfield 150, 3) := by decide +kernel
theorem eX7_factor_32 : decode mX7_factor.2.1 32 = .ok (.iconst 1, 1) := by decide +kernel
theorem eX7_factor_33 : decode mX7_factor.2.1 33 = .ok (.iadd, 1) := by decide +kernel
theorem eX7_factor_34 : decode mX7_factor.2.1 34 = .ok (.putfield 150, 3) := by decide +kernel
theorem eX7_factor_37 : decode mX7_factor.2.1 37 = .ok (.aload_n 0, 1) := by decide +kernel
theorem eX7_factor_38 : decode mX7_factor.2.1 38 = .ok (.invokevirtual 153, 3) := by decide +kernel
theorem eX7_factor_41 : decode mX7_factor.2.1 41 = .ok (.ifCond .ne 7, 3) := by decide +kernel
theorem eX7_factor_44 : decode mX7_factor.2.1 44 = .ok (.iconst 1, 1) := by decide +kernel
theorem eX7_factor_45 : decode mX7_factor.2.1 45 = .ok (.goto 4, 3) := by decide +kernel
theorem eX7_factor_48 : decode mX7_factor.2.1 48 = .ok (.iconst 0, 1) := by decide +kernel
theorem eX7_factor_49 : decode mX7_factor.2.1 49 = .ok (.istore_n 1, 1) := by decide +kernel
theorem eX7_factor_50 : decode mX7_factor.2.1 50 = .ok (.aload_n 0, 1) := by decide +kernel
theorem eX7_factor_51 : decode mX7_factor.2.1 51 = .ok (.dup, 1) := by decide +kernel
theorem eX7_factor_52 : decode mX7_factor.2.1 52 = .ok (.getfield 150, 3) := by decide +kernel
theorem eX7_factor_55 : decode mX7_factor.2.1 55 = .ok (.iconst 1, 1) := by decide +kernel
theorem eX7_factor_56 : decode mX7_factor.2.1 56 = .ok (.isub, 1) := by decide +kernel
theorem eX7_factor_57 : decode mX7_factor.2.1 57 = .ok (.putfield 150, 3) := by decide +kernel
theorem eX7_factor_60 : decode mX7_factor.2.1 60 = .ok (.goto 69, 3) := by decide +kernel
theorem eX7_factor_63 : decode mX7_factor.2.1 63 = .ok (.aload_n 0, 1) := by decide +kernel
theorem eX7_factor_64 : decode mX7_factor.2.1 64 = .ok (.getfield 150, 3) := by decide +kernel
theorem eX7_factor_67 : decode mX7_factor.2.1 67 = .ok (.iconst 4, 1) := by decide +kernel
theorem eX7_factor_68 : decode mX7_factor.2.1 68 = .ok (.if_icmp .ge 56, 3) := by decide +kernel
theorem eX7_factor_71 : decode mX7_factor.2.1 71 = .ok (.aload_n 0, 1) := by decide +kernel
theorem eX7_factor_72 : decode mX7_factor.2.1 72 = .ok (.bipush 40, 2) := by decide +kernel
theorem eX7_factor_74 : decode mX7_factor.2.1 74 = .ok (.invokevirtual 136, 3) := by decide +kernel
theorem eX7_factor_77 : decode mX7_factor.2.1 77 = .ok (.ifCond .eq 47, 3) := by decide +kernel
theorem eX7_factor_80 : decode mX7_factor.2.1 80 = .ok (.aload_n 0, 1) := by decide +kernel
theorem eX7_factor_81 : decode mX7_factor.2.1 81 = .ok (.dup, 1) := by decide +kernel
theorem eX7_factor_82 : decode mX7_factor.2.1 82 = .ok (.getfield 130, 3) := by decide +kernel
theorem eX7_factor_85 : decode mX7_factor.2.1 85 = .ok (.iconst 1, 1) := by decide +kernel
theorem eX7_factor_86 : decode mX7_factor.2.1 86 = .ok (.iadd, 1) := by decide +kernel
theorem eX7_factor_87 : decode mX7_factor.2.1 87 = .ok (.putfield 130, 3) := by decide +kernel
theorem eX7_factor_90 : decode mX7_factor.2.1 90 = .ok (.aload_n 0, 1) := by decide +kernel
theorem eX7_factor_91 : decode mX7_factor.2.1 91 = .ok (.dup, 1) := by decide +kernel
theorem eX7_factor_92 : decode mX7_factor.2.1 92 = .ok (.getfield 150, 3) := by decide +kernel
theorem eX7_factor_95 : decode mX7_factor.2.1 95 = .ok (.iconst 1, 1) := by decide +kernel
theorem eX7_factor_96 : decode mX7_factor.2.1 96 = .ok (.iadd, 1) := by decide +kernel
theorem eX7_factor_97 : decode mX7_factor.2.1 97 = .ok (.putfield 150, 3) := by decide +kernel
theorem eX7_factor_100 : decode mX7_factor.2.1 100 = .ok (.aload_n 0, 1) := by decide +kernel
theorem eX7_factor_101 : decode mX7_factor.2.1 101 = .ok (.invokevirtual 156, 3) := by decide +kernel
theorem eX7_factor_104 : decode mX7_factor.2.1 104 = .ok (.istore_n 1, 1) := by decide +kernel
theorem eX7_factor_105 : decode mX7_factor.2.1 105 = .ok (.aload_n 0, 1) := by decide +kernel
theorem eX7_factor_106 : decode mX7_factor.2.1 106 = .ok (.dup, 1) := by decide +kernel
theorem eX7_factor_107 : decode mX7_factor.2.1 107 = .ok (.getfield 150, 3) := by decide +kernel
theorem eX7_factor_110 : decode mX7_factor.2.1 110 = .ok (.iconst 1, 1) := by decide +kernel
theorem eX7_factor_111 : decode mX7_factor.2.1 111 = .ok (.isub, 1) := by decide +kernel
theorem eX7_factor_112 : decode mX7_factor.2.1 112 = .ok (.putfield 150, 3) := by decide +kernel
theorem eX7_factor_115 : decode mX7_factor.2.1 115 = .ok (.aload_n 0, 1) := by decide +kernel
theorem eX7_factor_116 : decode mX7_factor.2.1 116 = .ok (.bipush 41, 2) := by decide +kernel
theorem eX7_factor_118 : decode mX7_factor.2.1 118 = .ok (.invokevirtual 143, 3) := by decide +kernel
theorem eX7_factor_121 : decode mX7_factor.2.1 121 = .ok (.goto 8, 3) := by decide +kernel
theorem eX7_factor_124 : decode mX7_factor.2.1 124 = .ok (.aload_n 0, 1) := by decide +kernel
theorem eX7_factor_125 : decode mX7_factor.2.1 125 = .ok (.invokevirtual 159, 3) := by decide +kernel
theorem eX7_factor_128 : decode mX7_factor.2.1 128 = .ok (.istore_n 1, 1) := by decide +kernel
theorem eX7_factor_129 : decode mX7_factor.2.1 129 = .ok (.iload_n 1, 1) := by decide +kernel
theorem eX7_factor_130 : decode mX7_factor.2.1 130 = .ok (.ireturn, 1) := by decide +kernel
/-! the model's parser: E, T, F -/
section M9
variable {l : Launch} {G : GT} {u : Nat} {U : MS}
/-- by fuel: 0 F, 1 T, 2 T goes on, 3 E, 4 E goes on -/
def pX (R : Nat → Int32) (n : Nat) (L N : Nat → Int32) : Nat → Nat → Nat → Bool → PP → Bool × PP
  | 0, _, _, _, p => (false, p)
  | f + 1, 0, k, _, p => if k < 4 ∧ pAt R n p 33 = true then (!(pX R n L N f 0 (k + 1) false (p.1 + 1, p.2)).1, (pX R n L N f 0 (k + 1) false (p.1 + 1, p.2)).2)
      else if k < 4 ∧ pAt R n p 40 = true then ((pX R n L N f 3 (k + 1) false (p.1 + 1, p.2)).1, pTk R n (pX R n L N f 3 (k + 1) false (p.1 + 1, p.2)).2 41) else pTest R n L N p
  | f + 1, 1, k, _, p => pX R n L N f 2 k (pX R n L N f 0 k false p).1 (pX R n L N f 0 k false p).2
  | f + 1, 2, k, b, p => if pAt R n p 38 = true then pX R n L N f 2 k (b && (pX R n L N f 0 k false (p.1 + 1, p.2)).1) (pX R n L N f 0 k false (p.1 + 1, p.2)).2 else (b, p)
  | f + 1, 3, k, _, p => pX R n L N f 4 k (pX R n L N f 1 k false p).1 (pX R n L N f 1 k false p).2
  | f + 1, _ + 4, k, b, p => if pAt R n p 124 = true then pX R n L N f 4 k (b || (pX R n L N f 1 k false (p.1 + 1, p.2)).1) (pX R n L N f 1 k false (p.1 + 1, p.2)).2 else (b, p)
theorem pTk_ge {R : Nat → Int32} {n : Nat} {p : PP} {c : Int32} : p.1 ≤ (pTk R n p c).1 := by
  unfold pTk
  split
  · show p.1 ≤ p.1 + 1; omega
  · exact Nat.le_refl _
theorem pNum_ge {R : Nat → Int32} {n : Nat} {p : PP} : p.1 ≤ (pNum R n p).2.1 := by
  unfold pNum
  split
  · split
    · show p.1 ≤ p.1 + 2; omega
    · show p.1 ≤ p.1 + 1; omega
  · exact Nat.le_refl _
theorem pTest_ge {R : Nat → Int32} {n : Nat} {L N : Nat → Int32} {p : PP} : p.1 ≤ (pTest R n L N p).2.1 := by
  unfold pTest
  split
  · exact Nat.le_refl _
  · exact Nat.le_trans (Nat.le_trans (Nat.le_succ p.1) (pTk_ge (p := (p.1 + 1, p.2)))) pNum_ge
theorem pX_mon {R : Nat → Int32} {n : Nat} {L N : Nat → Int32} : ∀ (f t k : Nat) (b : Bool) (p : PP), p.1 ≤ n → p.1 ≤ (pX R n L N f t k b p).2.1 ∧ (pX R n L N f t k b p).2.1 ≤ n
  | 0, t, k, b, p, h => by unfold pX; exact ⟨Nat.le_refl _, h⟩
  | f + 1, 0, k, b, p, h => by
    rw [pX]
    split
    · rename_i z
      have := pAt_lt z.2
      have h2 := pX_mon (R := R) (n := n) (L := L) (N := N) f 0 (k + 1) false (p.1 + 1, p.2) (by show p.1 + 1 ≤ n; omega)
      exact ⟨Nat.le_trans (Nat.le_succ _) h2.1, h2.2⟩
    · split
      · rename_i z
        have := pAt_lt z.2
        have h2 := pX_mon (R := R) (n := n) (L := L) (N := N) f 3 (k + 1) false (p.1 + 1, p.2) (by show p.1 + 1 ≤ n; omega)
        exact ⟨Nat.le_trans (Nat.le_trans (Nat.le_succ _) h2.1) pTk_ge, pTk_le h2.2⟩
      · exact ⟨pTest_ge, pTest_le h⟩
  | f + 1, 1, k, b, p, h => by
    rw [pX]
    have h1 := pX_mon (R := R) (n := n) (L := L) (N := N) f 0 k false p h
    have h2 := pX_mon (R := R) (n := n) (L := L) (N := N) f 2 k (pX R n L N f 0 k false p).1 _ h1.2
    exact ⟨Nat.le_trans h1.1 h2.1, h2.2⟩
  | f + 1, 2, k, b, p, h => by
    rw [pX]
    split
    · rename_i z
      have := pAt_lt z
      have h1 := pX_mon (R := R) (n := n) (L := L) (N := N) f 0 k false (p.1 + 1, p.2) (by show p.1 + 1 ≤ n; omega)
      have h2 := pX_mon (R := R) (n := n) (L := L) (N := N) f 2 k (b && (pX R n L N f 0 k false (p.1 + 1, p.2)).1) _ h1.2
      exact ⟨Nat.le_trans (Nat.le_trans (Nat.le_succ _) h1.1) h2.1, h2.2⟩
    · exact ⟨Nat.le_refl _, h⟩
  | f + 1, 3, k, b, p, h => by
    rw [pX]
    have h1 := pX_mon (R := R) (n := n) (L := L) (N := N) f 1 k false p h
    have h2 := pX_mon (R := R) (n := n) (L := L) (N := N) f 4 k (pX R n L N f 1 k false p).1 _ h1.2
    exact ⟨Nat.le_trans h1.1 h2.1, h2.2⟩
  | f + 1, t + 4, k, b, p, h => by
    rw [pX]
    split
    · rename_i z
      have := pAt_lt z
      have h1 := pX_mon (R := R) (n := n) (L := L) (N := N) f 1 k false (p.1 + 1, p.2) (by show p.1 + 1 ≤ n; omega)
      have h2 := pX_mon (R := R) (n := n) (L := L) (N := N) f 4 k (b || (pX R n L N f 1 k false (p.1 + 1, p.2)).1) _ h1.2
      exact ⟨Nat.le_trans (Nat.le_trans (Nat.le_succ _) h1.1) h2.1, h2.2⟩
    · exact ⟨Nat.le_refl _, h⟩
    all_goals exact h
/-- the model with 'within' k -/
abbrev wk (U : MS) (k : Nat) : MS := msc U 13 (nI k)
theorem wk_in (U : MS) (k k' : Nat) (p : PP) {x : Int32} (hx : x = nI k') : msc (mp (wk U k) p) 13 x = mp (wk U k') p := by
  subst hx
  unfold mp wk msc
  congr 2
  funext j
  by_cases h1 : j = 13
  · subst h1; simp
  · simp [h1]
abbrev px (U : MS) (n f t k : Nat) (b : Bool) (p : PP) : Bool × PP := pX (U.1 7) n (U.1 9) (U.1 8) f t k b p
def FC (l : Launch) (G : GT) (u : Nat) (U : MS) (n f : Nat) : Prop := ∀ (d k : Nat) (p : PP) (h : Hp), MAt h u (mp (wk U k) p) → k ≤ 4 → p.1 ≤ n → 4 * (n - p.1) + 1 ≤ f → 15 ≤ d + 3 * k → Ct l G mX7_factor yX7_factor d 0 0 [.ref u] h (fun r h' => r = some (.int (zb (px U n f 0 k false p).1)) ∧ MAt h' u (mp (wk U k) (px U n f 0 k false p).2) ∧ Same u 19 h h')
def BC (l : Launch) (G : GT) (u : Nat) (U : MS) (n f : Nat) : Prop := ∀ (d k : Nat) (p : PP) (h : Hp), MAt h u (mp (wk U k) p) → k ≤ 4 → p.1 ≤ n → 4 * (n - p.1) + 2 ≤ f → 16 ≤ d + 3 * k → Ct l G mX7_both yX7_both d 0 0 [.ref u] h (fun r h' => r = some (.int (zb (px U n f 1 k false p).1)) ∧ MAt h' u (mp (wk U k) (px U n f 1 k false p).2) ∧ Same u 19 h h')
def EC (l : Launch) (G : GT) (u : Nat) (U : MS) (n f : Nat) : Prop := ∀ (d k : Nat) (p : PP) (h : Hp), MAt h u (mp (wk U k) p) → k ≤ 4 → p.1 ≤ n → 4 * (n - p.1) + 3 ≤ f → 17 ≤ d + 3 * k → Ct l G mX7_any yX7_any d 0 0 [.ref u] h (fun r h' => r = some (.int (zb (px U n f 3 k false p).1)) ∧ MAt h' u (mp (wk U k) (px U n f 3 k false p).2) ∧ Same u 19 h h')

theorem step_F {n f : Nat} (hn : pOk U n) (ih : FC l G u U n f ∧ BC l G u U n f ∧ EC l G u U n f) : FC l G u U n (f + 1) := by
  intro d k p h hM hk hp hf hd
  have n100 := hn.2
  refine ct_of (lv := [some (.ref u), none]) (by decide +kernel) rfl (fun z => by cases z) (fun _ => rfl) (fun _ => Nat.le_of_ble_eq_true rfl) ?_
  refine aw_aload_n (pc' := 1) eX7_factor_0 rfl rfl trivial ?_
  refine aw_Mint (pc' := 4) (kf := 13) hM eX7_factor_1 rfl (by decide) q802 ?_
  refine aw_iconst (pc' := 5) (v := 4) eX7_factor_4 rfl (by decide) ?_
  refine aw_icmp_ge (pc' := 8) (tgt := 63) eX7_factor_5 rfl (by decide) (fun c_5 => ?_) (fun c_5 => ?_)
  · refine aw_aload_n (pc' := 64) eX7_factor_63 rfl rfl trivial ?_
    refine aw_Mint (pc' := 67) (kf := 13) hM eX7_factor_64 rfl (by decide) q802 ?_
    refine aw_iconst (pc' := 68) (v := 4) eX7_factor_67 rfl (by decide) ?_
    refine aw_icmp_ge (pc' := 71) (tgt := 124) eX7_factor_68 rfl (by decide) (fun c_68 => ?_) (fun c_68 => ?_)
    · have hk5 : 4 ≤ k := ge_nI (a := k) (b := 4) (by omega) (by omega) c_5
      refine aw_aload_n (pc' := 125) eX7_factor_124 rfl rfl trivial ?_
      refine aw_callv (pc' := 128) (nn := 0) (c_X7_test (d := d - 1) hM (show pOk (wk U k) n from hn) hp (by omega)) eX7_factor_125 rfl ⟨q949, q952, q62⟩ q951 q34 ⟨rfl, by decide +kernel, by decide +kernel, by decide +kernel⟩ rfl (by rw [hM.2.1]; exact ⟨rfl, rfl⟩) rfl ⟨by omega, by decide⟩ ⟨by omega, by omega⟩ rfl (Nat.le_of_ble_eq_true rfl) (fun v3 h4 hq5 => ?_)
      obtain ⟨rfl, hM1, hs2⟩ := hq5
      dsimp only [Option.toList, List.cons_append, List.nil_append]
      refine aw_istore_n (pc' := 129) eX7_factor_128 rfl (by decide) ?_
      dsimp only [zst, zst2, zcut]
      refine aw_iload_n (pc' := 130) eX7_factor_129 rfl rfl ?_
      refine aw_ret (v := some (.int _)) eX7_factor_130 ⟨rfl, by first | exact zbn _ | rfl⟩ (by omega) (by omega) rfl ?_
      have e : px U n (f + 1) 0 k false p = pTest (U.1 7) n (U.1 9) (U.1 8) p := by
        show pX _ _ _ _ (f + 1) 0 k false p = _
        rw [pX, if_neg (fun z => absurd z.1 (by omega))]; exact if_neg (fun z => absurd z.1 (by omega))
      exact ⟨by rw [e]; rfl, by rw [e]; exact hM1, hs2⟩
    · have hk5 : k < 4 := nge_nI (a := k) (b := 4) (by omega) (by omega) c_68
      exact absurd hk5 (by have := ge_nI (a := k) (b := 4) (by omega) (by omega) c_5; omega)
  · have hk4 : k < 4 := nge_nI (a := k) (b := 4) (by omega) (by omega) c_5
    refine aw_aload_n (pc' := 9) eX7_factor_8 rfl rfl trivial ?_
    refine aw_bipush (pc' := 11) (v := 33) eX7_factor_9 rfl (by decide) ?_
    refine aw_callv (pc' := 14) (nn := 1) (c_X7_isAt (d := d - 1) hM (show pOk (wk U k) n from hn) hp _ (by omega)) eX7_factor_11 rfl ⟨q921, q924, q62⟩ q923 q27 ⟨rfl, by decide +kernel, by decide +kernel, by decide +kernel⟩ rfl (by rw [hM.2.1]; exact ⟨rfl, rfl⟩) rfl ⟨by omega, by decide⟩ ⟨by omega, by omega⟩ rfl (Nat.le_of_ble_eq_true rfl) (fun v6 h7 hq8 => ?_)
    obtain ⟨rfl, rfl⟩ := hq8
    dsimp only [Option.toList, List.cons_append, List.nil_append]
    refine aw_if_eq (pc' := 17) (tgt := 63) eX7_factor_14 rfl (by decide) (fun c_14 => ?_) (fun c_14 => ?_)
    · refine aw_aload_n (pc' := 64) eX7_factor_63 rfl rfl trivial ?_
      refine aw_Mint (pc' := 67) (kf := 13) hM eX7_factor_64 rfl (by decide) q802 ?_
      refine aw_iconst (pc' := 68) (v := 4) eX7_factor_67 rfl (by decide) ?_
      refine aw_icmp_ge (pc' := 71) (tgt := 124) eX7_factor_68 rfl (by decide) (fun c_68 => ?_) (fun c_68 => ?_)
      · have hk5 : 4 ≤ k := ge_nI (a := k) (b := 4) (by omega) (by omega) c_68
        exact absurd hk4 (by omega)
      · refine aw_aload_n (pc' := 72) eX7_factor_71 rfl rfl trivial ?_
        refine aw_bipush (pc' := 74) (v := 40) eX7_factor_72 rfl (by decide) ?_
        refine aw_callv (pc' := 77) (nn := 1) (c_X7_isAt (d := d - 1) hM (show pOk (wk U k) n from hn) hp _ (by omega)) eX7_factor_74 rfl ⟨q921, q924, q62⟩ q923 q27 ⟨rfl, by decide +kernel, by decide +kernel, by decide +kernel⟩ rfl (by rw [hM.2.1]; exact ⟨rfl, rfl⟩) rfl ⟨by omega, by decide⟩ ⟨by omega, by omega⟩ rfl (Nat.le_of_ble_eq_true rfl) (fun v9 h10 hq11 => ?_)
        obtain ⟨rfl, rfl⟩ := hq11
        dsimp only [Option.toList, List.cons_append, List.nil_append]
        refine aw_if_eq (pc' := 80) (tgt := 124) eX7_factor_77 rfl (by decide) (fun c_77 => ?_) (fun c_77 => ?_)
        · -- 
          refine aw_aload_n (pc' := 125) eX7_factor_124 rfl rfl trivial ?_
          refine aw_callv (pc' := 128) (nn := 0) (c_X7_test (d := d - 1) hM (show pOk (wk U k) n from hn) hp (by omega)) eX7_factor_125 rfl ⟨q949, q952, q62⟩ q951 q34 ⟨rfl, by decide +kernel, by decide +kernel, by decide +kernel⟩ rfl (by rw [hM.2.1]; exact ⟨rfl, rfl⟩) rfl ⟨by omega, by decide⟩ ⟨by omega, by omega⟩ rfl (Nat.le_of_ble_eq_true rfl) (fun v14 h15 hq16 => ?_)
          obtain ⟨rfl, hM12, hs13⟩ := hq16
          dsimp only [Option.toList, List.cons_append, List.nil_append]
          refine aw_istore_n (pc' := 129) eX7_factor_128 rfl (by decide) ?_
          dsimp only [zst, zst2, zcut]
          refine aw_iload_n (pc' := 130) eX7_factor_129 rfl rfl ?_
          refine aw_ret (v := some (.int _)) eX7_factor_130 ⟨rfl, by first | exact zbn _ | rfl⟩ (by omega) (by omega) rfl ?_
          have g14 : pAt (U.1 7) n p 33 = false := by (have z := c_14; (try simp only [zb_eq0, Bool.not_eq_false, Bool.not_eq_true, decide_eq_true_eq, decide_eq_false_iff_not, Decidable.not_not] at z); exact z)
          have g77 : pAt (U.1 7) n p 40 = false := by (have z := c_77; (try simp only [zb_eq0, Bool.not_eq_false, Bool.not_eq_true, decide_eq_true_eq, decide_eq_false_iff_not, Decidable.not_not] at z); exact z)
          have e : px U n (f + 1) 0 k false p = pTest (U.1 7) n (U.1 9) (U.1 8) p := by
            show pX _ _ _ _ (f + 1) 0 k false p = _
            rw [pX, if_neg (by rw [g14]; simp)]; exact if_neg (by rw [g77]; simp)
          exact ⟨by rw [e]; rfl, by rw [e]; exact hM12, hs13⟩
        · simp only [zb_eq0, Bool.not_eq_false, Bool.not_eq_true, decide_eq_true_eq, decide_eq_false_iff_not, Decidable.not_not] at c_77
          have b9 : p.1 < n := pAt_lt c_77
          refine aw_aload_n (pc' := 81) eX7_factor_80 rfl rfl trivial ?_
          refine aw_dup (pc' := 82) eX7_factor_81 rfl rfl ?_
          refine aw_Mint (pc' := 85) (kf := 11) hM eX7_factor_82 rfl (by decide) q800 ?_
          refine aw_iconst (pc' := 86) (v := 1) eX7_factor_85 rfl (by decide) ?_
          refine aw_iadd (pc' := 87) eX7_factor_86 rfl ?_
          refine aw_Mput (pc' := 90) 11 hM eX7_factor_87 rfl (by decide) (fun z => absurd z (by decide)) q800 (fun h19 hM17 hs18 => ?_)
          have hMa := hM17
          rw [show msc (mp (wk U k) p) 11 ((mp (wk U k) p).2.1 11 + 1) = mp (wk U k) (p.1 + 1, p.2) from mp_at _ p (p.1 + 1) (nI_1 p.1)] at hMa
          refine aw_aload_n (pc' := 91) eX7_factor_90 rfl rfl trivial ?_
          refine aw_dup (pc' := 92) eX7_factor_91 rfl rfl ?_
          refine aw_Mint (pc' := 95) (kf := 13) hMa eX7_factor_92 rfl (by decide) q802 ?_
          refine aw_iconst (pc' := 96) (v := 1) eX7_factor_95 rfl (by decide) ?_
          refine aw_iadd (pc' := 97) eX7_factor_96 rfl ?_
          refine aw_Mput (pc' := 100) 13 hMa eX7_factor_97 rfl (by decide) (fun z => absurd z (by decide)) q802 (fun h22 hM20 hs21 => ?_)
          have hT23 := hs18.tr hs21
          have hMb := hM20
          rw [show msc (mp (wk U k) (p.1 + 1, p.2)) 13 ((mp (wk U k) (p.1 + 1, p.2)).2.1 13 + 1) = mp (wk U (k + 1)) (p.1 + 1, p.2) from wk_in U k (k + 1) (p.1 + 1, p.2) (nI_1 k)] at hMb
          refine aw_aload_n (pc' := 101) eX7_factor_100 rfl rfl trivial ?_
          refine aw_callv (pc' := 104) (nn := 0) (ih.2.2 (d - 1) (k + 1) (p.1 + 1, p.2) _ hMb (by omega) (by show p.1 + 1 ≤ n; omega) (by show 4 * (n - (p.1 + 1)) + 3 ≤ f; omega) (by omega)) eX7_factor_101 rfl ⟨q937, q940, q62⟩ q939 q31 ⟨rfl, by decide +kernel, by decide +kernel, by decide +kernel⟩ rfl (by rw [hMb.2.1]; exact ⟨rfl, rfl⟩) rfl ⟨by omega, by decide⟩ ⟨by omega, by omega⟩ rfl (Nat.le_of_ble_eq_true rfl) (fun v26 h27 hq28 => ?_)
          obtain ⟨rfl, hM24, hs25⟩ := hq28
          have hT29 := hT23.tr hs25
          dsimp only [Option.toList, List.cons_append, List.nil_append]
          refine aw_istore_n (pc' := 105) eX7_factor_104 rfl (by decide) ?_
          dsimp only [zst, zst2, zcut]
          refine aw_aload_n (pc' := 106) eX7_factor_105 rfl rfl trivial ?_
          refine aw_dup (pc' := 107) eX7_factor_106 rfl rfl ?_
          refine aw_Mint (pc' := 110) (kf := 13) hM24 eX7_factor_107 rfl (by decide) q802 ?_
          refine aw_iconst (pc' := 111) (v := 1) eX7_factor_110 rfl (by decide) ?_
          refine aw_isub (pc' := 112) eX7_factor_111 rfl ?_
          refine aw_Mput (pc' := 115) 13 hM24 eX7_factor_112 rfl (by decide) (fun z => absurd z (by decide)) q802 (fun h32 hM30 hs31 => ?_)
          have hT33 := hT29.tr hs31
          have hMc := hM30
          rw [show msc (mp (wk U (k + 1)) (px U n f 3 (k + 1) false (p.1 + 1, p.2)).2) 13 ((mp (wk U (k + 1)) (px U n f 3 (k + 1) false (p.1 + 1, p.2)).2).2.1 13 - 1) = mp (wk U k) (px U n f 3 (k + 1) false (p.1 + 1, p.2)).2 from wk_in U (k + 1) k (px U n f 3 (k + 1) false (p.1 + 1, p.2)).2 (nI_m1)] at hMc
          have m3 := (pX_mon (R := U.1 7) (n := n) (L := U.1 9) (N := U.1 8) f 3 (k + 1) false (p.1 + 1, p.2) (by show p.1 + 1 ≤ n; omega)).2
          refine aw_aload_n (pc' := 116) eX7_factor_115 rfl rfl trivial ?_
          refine aw_bipush (pc' := 118) (v := 41) eX7_factor_116 rfl (by decide) ?_
          refine aw_callv (pc' := 121) (nn := 1) (c_X7_takes (d := d - 1) hMc (show pOk (wk U k) n from hn) m3 _ (by omega)) eX7_factor_118 rfl ⟨q925, q928, q62⟩ q927 q28 ⟨rfl, by decide +kernel, by decide +kernel, by decide +kernel⟩ rfl (by rw [hMc.2.1]; exact ⟨rfl, rfl⟩) rfl ⟨by omega, by decide⟩ ⟨by omega, by omega⟩ rfl (Nat.le_of_ble_eq_true rfl) (fun v36 h37 hq38 => ?_)
          obtain ⟨rfl, hM34, hs35⟩ := hq38
          have hT39 := hT33.tr hs35
          dsimp only [Option.toList, List.cons_append, List.nil_append]
          refine aw_goto eX7_factor_121 (by decide) (tgt := 129) ?_
          refine aw_iload_n (pc' := 130) eX7_factor_129 rfl rfl ?_
          refine aw_ret (v := some (.int _)) eX7_factor_130 ⟨rfl, by first | exact zbn _ | rfl⟩ (by omega) (by omega) rfl ?_
          have g14 : pAt (U.1 7) n p 33 = false := by (have z := c_14; (try simp only [zb_eq0, Bool.not_eq_false, Bool.not_eq_true, decide_eq_true_eq, decide_eq_false_iff_not, Decidable.not_not] at z); exact z)
          have g77 : pAt (U.1 7) n p 40 = true := by (have z := c_77; (try simp only [zb_eq0, Bool.not_eq_false, Bool.not_eq_true, decide_eq_true_eq, decide_eq_false_iff_not, Decidable.not_not] at z); exact z)
          have e : px U n (f + 1) 0 k false p = ((px U n f 3 (k + 1) false (p.1 + 1, p.2)).1, pTk (U.1 7) n (px U n f 3 (k + 1) false (p.1 + 1, p.2)).2 41) := by
            show pX _ _ _ _ (f + 1) 0 k false p = _
            rw [pX, if_neg (by rw [g14]; simp)]; exact if_pos ⟨hk4, g77⟩
          exact ⟨by rw [e], by rw [e]; exact hM34, hT39⟩
    · simp only [zb_eq0, Bool.not_eq_false, Bool.not_eq_true, decide_eq_true_eq, decide_eq_false_iff_not, Decidable.not_not] at c_14
      have b9 : p.1 < n := pAt_lt c_14
      refine aw_aload_n (pc' := 18) eX7_factor_17 rfl rfl trivial ?_
      refine aw_dup (pc' := 19) eX7_factor_18 rfl rfl ?_
      refine aw_Mint (pc' := 22) (kf := 11) hM eX7_factor_19 rfl (by decide) q800 ?_
      refine aw_iconst (pc' := 23) (v := 1) eX7_factor_22 rfl (by decide) ?_
      refine aw_iadd (pc' := 24) eX7_factor_23 rfl ?_
      refine aw_Mput (pc' := 27) 11 hM eX7_factor_24 rfl (by decide) (fun z => absurd z (by decide)) q800 (fun h42 hM40 hs41 => ?_)
      have hMa := hM40
      rw [show msc (mp (wk U k) p) 11 ((mp (wk U k) p).2.1 11 + 1) = mp (wk U k) (p.1 + 1, p.2) from mp_at _ p (p.1 + 1) (nI_1 p.1)] at hMa
      refine aw_aload_n (pc' := 28) eX7_factor_27 rfl rfl trivial ?_
      refine aw_dup (pc' := 29) eX7_factor_28 rfl rfl ?_
      refine aw_Mint (pc' := 32) (kf := 13) hMa eX7_factor_29 rfl (by decide) q802 ?_
      refine aw_iconst (pc' := 33) (v := 1) eX7_factor_32 rfl (by decide) ?_
      refine aw_iadd (pc' := 34) eX7_factor_33 rfl ?_
      refine aw_Mput (pc' := 37) 13 hMa eX7_factor_34 rfl (by decide) (fun z => absurd z (by decide)) q802 (fun h45 hM43 hs44 => ?_)
      have hT46 := hs41.tr hs44
      have hMb := hM43
      rw [show msc (mp (wk U k) (p.1 + 1, p.2)) 13 ((mp (wk U k) (p.1 + 1, p.2)).2.1 13 + 1) = mp (wk U (k + 1)) (p.1 + 1, p.2) from wk_in U k (k + 1) (p.1 + 1, p.2) (nI_1 k)] at hMb
      refine aw_aload_n (pc' := 38) eX7_factor_37 rfl rfl trivial ?_
      refine aw_callv (pc' := 41) (nn := 0) (ih.1 (d - 1) (k + 1) (p.1 + 1, p.2) _ hMb (by omega) (by show p.1 + 1 ≤ n; omega) (by show 4 * (n - (p.1 + 1)) + 1 ≤ f; omega) (by omega)) eX7_factor_38 rfl ⟨q945, q948, q62⟩ q947 q33 ⟨rfl, by decide +kernel, by decide +kernel, by decide +kernel⟩ rfl (by rw [hMb.2.1]; exact ⟨rfl, rfl⟩) rfl ⟨by omega, by decide⟩ ⟨by omega, by omega⟩ rfl (Nat.le_of_ble_eq_true rfl) (fun v49 h50 hq51 => ?_)
      obtain ⟨rfl, hM47, hs48⟩ := hq51
      have hT52 := hT46.tr hs48
      dsimp only [Option.toList, List.cons_append, List.nil_append]
      refine aw_if_ne (pc' := 44) (tgt := 48) eX7_factor_41 rfl (by decide) (fun c_41 => ?_) (fun c_41 => ?_)
      · refine aw_iconst (pc' := 49) (v := 0) eX7_factor_48 rfl (by decide) ?_
        refine aw_istore_n (pc' := 50) eX7_factor_49 rfl (by decide) ?_
        dsimp only [zst, zst2, zcut]
        refine aw_aload_n (pc' := 51) eX7_factor_50 rfl rfl trivial ?_
        refine aw_dup (pc' := 52) eX7_factor_51 rfl rfl ?_
        refine aw_Mint (pc' := 55) (kf := 13) hM47 eX7_factor_52 rfl (by decide) q802 ?_
        refine aw_iconst (pc' := 56) (v := 1) eX7_factor_55 rfl (by decide) ?_
        refine aw_isub (pc' := 57) eX7_factor_56 rfl ?_
        refine aw_Mput (pc' := 60) 13 hM47 eX7_factor_57 rfl (by decide) (fun z => absurd z (by decide)) q802 (fun h55 hM53 hs54 => ?_)
        have hT56 := hT52.tr hs54
        have hMc := hM53
        rw [show msc (mp (wk U (k + 1)) (px U n f 0 (k + 1) false (p.1 + 1, p.2)).2) 13 ((mp (wk U (k + 1)) (px U n f 0 (k + 1) false (p.1 + 1, p.2)).2).2.1 13 - 1) = mp (wk U k) (px U n f 0 (k + 1) false (p.1 + 1, p.2)).2 from wk_in U (k + 1) k (px U n f 0 (k + 1) false (p.1 + 1, p.2)).2 (nI_m1)] at hMc
        refine aw_goto eX7_factor_60 (by decide) (tgt := 129) ?_
        refine aw_iload_n (pc' := 130) eX7_factor_129 rfl rfl ?_
        refine aw_ret (v := some (.int _)) eX7_factor_130 ⟨rfl, by first | exact zbn _ | rfl⟩ (by omega) (by omega) rfl ?_
        have g14 : pAt (U.1 7) n p 33 = true := by (have z := c_14; (try simp only [zb_eq0, Bool.not_eq_false, Bool.not_eq_true, decide_eq_true_eq, decide_eq_false_iff_not, Decidable.not_not] at z); exact z)
        have g41 : (px U n f 0 (k + 1) false (p.1 + 1, p.2)).1 = true := by (have z := c_41; (try simp only [zb_eq0, Bool.not_eq_false, Bool.not_eq_true, decide_eq_true_eq, decide_eq_false_iff_not, Decidable.not_not] at z); exact z)
        have e : px U n (f + 1) 0 k false p = (!(px U n f 0 (k + 1) false (p.1 + 1, p.2)).1, (px U n f 0 (k + 1) false (p.1 + 1, p.2)).2) := by
          show pX _ _ _ _ (f + 1) 0 k false p = _
          rw [pX]; exact if_pos ⟨hk4, g14⟩
        exact ⟨by rw [e]; simp [zb, g41], by rw [e]; exact hMc, hT56⟩
      · refine aw_iconst (pc' := 45) (v := 1) eX7_factor_44 rfl (by decide) ?_
        refine aw_goto eX7_factor_45 (by decide) (tgt := 49) ?_
        refine aw_istore_n (pc' := 50) eX7_factor_49 rfl (by decide) ?_
        dsimp only [zst, zst2, zcut]
        refine aw_aload_n (pc' := 51) eX7_factor_50 rfl rfl trivial ?_
        refine aw_dup (pc' := 52) eX7_factor_51 rfl rfl ?_
        refine aw_Mint (pc' := 55) (kf := 13) hM47 eX7_factor_52 rfl (by decide) q802 ?_
        refine aw_iconst (pc' := 56) (v := 1) eX7_factor_55 rfl (by decide) ?_
        refine aw_isub (pc' := 57) eX7_factor_56 rfl ?_
        refine aw_Mput (pc' := 60) 13 hM47 eX7_factor_57 rfl (by decide) (fun z => absurd z (by decide)) q802 (fun h59 hM57 hs58 => ?_)
        have hT60 := hT52.tr hs58
        have hMc := hM57
        rw [show msc (mp (wk U (k + 1)) (px U n f 0 (k + 1) false (p.1 + 1, p.2)).2) 13 ((mp (wk U (k + 1)) (px U n f 0 (k + 1) false (p.1 + 1, p.2)).2).2.1 13 - 1) = mp (wk U k) (px U n f 0 (k + 1) false (p.1 + 1, p.2)).2 from wk_in U (k + 1) k (px U n f 0 (k + 1) false (p.1 + 1, p.2)).2 (nI_m1)] at hMc
        refine aw_goto eX7_factor_60 (by decide) (tgt := 129) ?_
        refine aw_iload_n (pc' := 130) eX7_factor_129 rfl rfl ?_
        refine aw_ret (v := some (.int _)) eX7_factor_130 ⟨rfl, by first | exact zbn _ | rfl⟩ (by omega) (by omega) rfl ?_
        have g14 : pAt (U.1 7) n p 33 = true := by (have z := c_14; (try simp only [zb_eq0, Bool.not_eq_false, Bool.not_eq_true, decide_eq_true_eq, decide_eq_false_iff_not, Decidable.not_not] at z); exact z)
        have g41 : (px U n f 0 (k + 1) false (p.1 + 1, p.2)).1 = false := by (have z := c_41; (try simp only [zb_eq0, Bool.not_eq_false, Bool.not_eq_true, decide_eq_true_eq, decide_eq_false_iff_not, Decidable.not_not] at z); exact z)
        have e : px U n (f + 1) 0 k false p = (!(px U n f 0 (k + 1) false (p.1 + 1, p.2)).1, (px U n f 0 (k + 1) false (p.1 + 1, p.2)).2) := by
          show pX _ _ _ _ (f + 1) 0 k false p = _
          rw [pX]; exact if_pos ⟨hk4, g14⟩
        exact ⟨by rw [e]; simp [zb, g41], by rw [e]; exact hMc, hT60⟩
theorem lp_X7_both {Q : Option Value → Hp → Prop} {n f : Nat} (hn : pOk U n) {k d : Nat} (hk : k ≤ 4) (hd : 16 ≤ d + 3 * k) (ih : ∀ g, g < f → FC l G u U n g) : ∀ (g : Nat), g ≤ f → ∀ (b : Bool) (x : Int32) (o : Option Value) (p : PP) (h : Hp), p.1 ≤ n → 4 * (n - p.1) + 1 ≤ g → x = zb b → MAt h u (mp (wk U k) p) → (∀ h', MAt h' u (mp (wk U k) (px U n g 2 k b p).2) → Same u 19 h h' → Q (some (.int (zb (px U n g 2 k b p).1))) h') → AW l G mX7_both d 0 0 Q 0 0 h [some (.ref u), some (.int x), o] [] 5 := by
  intro g
  induction g with
  | zero => intro _ b x o p h hp hf; omega
  | succ g ihg =>
    intro hg b x o p h hp hf hx hM hQ
    subst hx
    have n100 := hn.2
    refine aw_aload_n (pc' := 6) eX7_both_5 rfl rfl trivial ?_
    refine aw_bipush (pc' := 8) (v := 38) eX7_both_6 rfl (by decide) ?_
    refine aw_callv (pc' := 11) (nn := 1) (c_X7_isAt (d := d - 1) hM (show pOk (wk U k) n from hn) hp _ (by omega)) eX7_both_8 rfl ⟨q921, q924, q62⟩ q923 q27 ⟨rfl, by decide +kernel, by decide +kernel, by decide +kernel⟩ rfl (by rw [hM.2.1]; exact ⟨rfl, rfl⟩) rfl ⟨by omega, by decide⟩ ⟨by omega, by omega⟩ rfl (Nat.le_of_ble_eq_true rfl) (fun v1 h2 hq3 => ?_)
    obtain ⟨rfl, rfl⟩ := hq3
    dsimp only [Option.toList, List.cons_append, List.nil_append]
    refine aw_if_eq (pc' := 14) (tgt := 46) eX7_both_11 rfl (by decide) (fun c_11 => ?_) (fun c_11 => ?_)
    · refine aw_iload_n (pc' := 47) eX7_both_46 rfl rfl ?_
      refine aw_ret (v := some (.int _)) eX7_both_47 ⟨rfl, zbn _⟩ (by omega) (by omega) rfl ?_
      have g11 : pAt (U.1 7) n p 38 = false := by (have z := c_11; (try simp only [zb_eq0, Bool.not_eq_false, Bool.not_eq_true, decide_eq_true_eq, decide_eq_false_iff_not, Decidable.not_not] at z); exact z)
      have e : px U n (g + 1) 2 k b p = (b, p) := by
        show pX _ _ _ _ (g + 1) 2 k b p = _
        rw [pX]; exact if_neg (by rw [g11]; decide)
      rw [e] at hQ
      exact hQ _ hM Same.rf
    · have g11 : pAt (U.1 7) n p 38 = true := by (have z := c_11; (try simp only [zb_eq0, Bool.not_eq_false, Bool.not_eq_true, decide_eq_true_eq, decide_eq_false_iff_not, Decidable.not_not] at z); exact z)
      have b9 : p.1 < n := pAt_lt g11
      refine aw_aload_n (pc' := 15) eX7_both_14 rfl rfl trivial ?_
      refine aw_dup (pc' := 16) eX7_both_15 rfl rfl ?_
      refine aw_Mint (pc' := 19) (kf := 11) hM eX7_both_16 rfl (by decide) q800 ?_
      refine aw_iconst (pc' := 20) (v := 1) eX7_both_19 rfl (by decide) ?_
      refine aw_iadd (pc' := 21) eX7_both_20 rfl ?_
      refine aw_Mput (pc' := 24) 11 hM eX7_both_21 rfl (by decide) (fun z => absurd z (by decide)) q800 (fun h6 hM4 hs5 => ?_)
      have hMa := hM4
      rw [show msc (mp (wk U k) p) 11 ((mp (wk U k) p).2.1 11 + 1) = mp (wk U k) (p.1 + 1, p.2) from mp_at _ p (p.1 + 1) (nI_1 p.1)] at hMa
      refine aw_aload_n (pc' := 25) eX7_both_24 rfl rfl trivial ?_
      refine aw_callv (pc' := 28) (nn := 0) ((ih g (by omega)) (d - 1) k (p.1 + 1, p.2) _ hMa hk (by show p.1 + 1 ≤ n; omega) (by show 4 * (n - (p.1 + 1)) + 1 ≤ g; omega) (by omega)) eX7_both_25 rfl ⟨q945, q948, q62⟩ q947 q33 ⟨rfl, by decide +kernel, by decide +kernel, by decide +kernel⟩ rfl (by rw [hMa.2.1]; exact ⟨rfl, rfl⟩) rfl ⟨by omega, by decide⟩ ⟨by omega, by omega⟩ rfl (Nat.le_of_ble_eq_true rfl) (fun v9 h10 hq11 => ?_)
      obtain ⟨rfl, hM7, hs8⟩ := hq11
      have hT12 := hs5.tr hs8
      dsimp only [Option.toList, List.cons_append, List.nil_append]
      refine aw_istore_n (pc' := 29) eX7_both_28 rfl (by decide) ?_
      dsimp only [zst, zst2, zcut]
      refine aw_iload_n (pc' := 30) eX7_both_29 rfl rfl ?_
      refine aw_if_eq (pc' := 33) (tgt := 41) eX7_both_30 rfl (by decide) (fun c_30 => ?_) (fun c_30 => ?_)
      · refine aw_iconst (pc' := 42) (v := 0) eX7_both_41 rfl (by decide) ?_
        refine aw_istore_n (pc' := 43) eX7_both_42 rfl (by decide) ?_
        dsimp only [zst, zst2, zcut]
        refine aw_goto eX7_both_43 (by decide) (tgt := 5) ?_
        have mm := pX_mon (R := U.1 7) (n := n) (L := U.1 9) (N := U.1 8) g 0 k false (p.1 + 1, p.2) (by show p.1 + 1 ≤ n; omega)
        have g30 : b = false := by (have z := c_30; (try simp only [zb_eq0, Bool.not_eq_false, Bool.not_eq_true, decide_eq_true_eq, decide_eq_false_iff_not, Decidable.not_not] at z); exact z)
        have e : px U n (g + 1) 2 k b p = px U n g 2 k (b && (px U n g 0 k false (p.1 + 1, p.2)).1) (px U n g 0 k false (p.1 + 1, p.2)).2 := by
          show pX _ _ _ _ (g + 1) 2 k b p = _
          rw [pX]; exact if_pos g11
        rw [e] at hQ
        have m1 : p.1 + 1 ≤ (px U n g 0 k false (p.1 + 1, p.2)).2.1 := mm.1
        refine ihg (by omega) (b && (px U n g 0 k false (p.1 + 1, p.2)).1) 0 _ (px U n g 0 k false (p.1 + 1, p.2)).2 _ mm.2 (by omega) (by simp [zb, g30]) hM7 (fun h' a1 a2 => hQ h' a1 ((hT12).tr a2))
      · refine aw_iload_n (pc' := 34) eX7_both_33 rfl rfl ?_
        refine aw_if_eq (pc' := 37) (tgt := 41) eX7_both_34 rfl (by decide) (fun c_34 => ?_) (fun c_34 => ?_)
        · refine aw_iconst (pc' := 42) (v := 0) eX7_both_41 rfl (by decide) ?_
          refine aw_istore_n (pc' := 43) eX7_both_42 rfl (by decide) ?_
          dsimp only [zst, zst2, zcut]
          refine aw_goto eX7_both_43 (by decide) (tgt := 5) ?_
          have mm := pX_mon (R := U.1 7) (n := n) (L := U.1 9) (N := U.1 8) g 0 k false (p.1 + 1, p.2) (by show p.1 + 1 ≤ n; omega)
          have g30 : b = true := by (have z := c_30; (try simp only [zb_eq0, Bool.not_eq_false, Bool.not_eq_true, decide_eq_true_eq, decide_eq_false_iff_not, Decidable.not_not] at z); exact z)
          have g34 : (px U n g 0 k false (p.1 + 1, p.2)).1 = false := by (have z := c_34; (try simp only [zb_eq0, Bool.not_eq_false, Bool.not_eq_true, decide_eq_true_eq, decide_eq_false_iff_not, Decidable.not_not] at z); exact z)
          have e : px U n (g + 1) 2 k b p = px U n g 2 k (b && (px U n g 0 k false (p.1 + 1, p.2)).1) (px U n g 0 k false (p.1 + 1, p.2)).2 := by
            show pX _ _ _ _ (g + 1) 2 k b p = _
            rw [pX]; exact if_pos g11
          rw [e] at hQ
          have m1 : p.1 + 1 ≤ (px U n g 0 k false (p.1 + 1, p.2)).2.1 := mm.1
          refine ihg (by omega) (b && (px U n g 0 k false (p.1 + 1, p.2)).1) 0 _ (px U n g 0 k false (p.1 + 1, p.2)).2 _ mm.2 (by omega) (by simp [zb, g30, g34]) hM7 (fun h' a1 a2 => hQ h' a1 ((hT12).tr a2))
        · refine aw_iconst (pc' := 38) (v := 1) eX7_both_37 rfl (by decide) ?_
          refine aw_goto eX7_both_38 (by decide) (tgt := 42) ?_
          refine aw_istore_n (pc' := 43) eX7_both_42 rfl (by decide) ?_
          dsimp only [zst, zst2, zcut]
          refine aw_goto eX7_both_43 (by decide) (tgt := 5) ?_
          have mm := pX_mon (R := U.1 7) (n := n) (L := U.1 9) (N := U.1 8) g 0 k false (p.1 + 1, p.2) (by show p.1 + 1 ≤ n; omega)
          have g30 : b = true := by (have z := c_30; (try simp only [zb_eq0, Bool.not_eq_false, Bool.not_eq_true, decide_eq_true_eq, decide_eq_false_iff_not, Decidable.not_not] at z); exact z)
          have g34 : (px U n g 0 k false (p.1 + 1, p.2)).1 = true := by (have z := c_34; (try simp only [zb_eq0, Bool.not_eq_false, Bool.not_eq_true, decide_eq_true_eq, decide_eq_false_iff_not, Decidable.not_not] at z); exact z)
          have e : px U n (g + 1) 2 k b p = px U n g 2 k (b && (px U n g 0 k false (p.1 + 1, p.2)).1) (px U n g 0 k false (p.1 + 1, p.2)).2 := by
            show pX _ _ _ _ (g + 1) 2 k b p = _
            rw [pX]; exact if_pos g11
          rw [e] at hQ
          have m1 : p.1 + 1 ≤ (px U n g 0 k false (p.1 + 1, p.2)).2.1 := mm.1
          refine ihg (by omega) (b && (px U n g 0 k false (p.1 + 1, p.2)).1) 1 _ (px U n g 0 k false (p.1 + 1, p.2)).2 _ mm.2 (by omega) (by simp [zb, g30, g34]) hM7 (fun h' a1 a2 => hQ h' a1 ((hT12).tr a2))
theorem step_B {n f : Nat} (hn : pOk U n) (ih : ∀ g, g < f + 1 → FC l G u U n g) : BC l G u U n (f + 1) := by
  intro d k p h hM hk hp hf hd
  have n100 := hn.2
  refine ct_of (lv := [some (.ref u), none, none]) (by decide +kernel) rfl (fun z => by cases z) (fun _ => rfl) (fun _ => Nat.le_of_ble_eq_true rfl) ?_
  have mm := pX_mon (R := U.1 7) (n := n) (L := U.1 9) (N := U.1 8) f 0 k false p hp
  have m1 : p.1 ≤ (px U n f 0 k false p).2.1 := mm.1
  have e : px U n (f + 1) 1 k false p = px U n f 2 k (px U n f 0 k false p).1 (px U n f 0 k false p).2 := by
    show pX _ _ _ _ (f + 1) 1 k false p = _
    rw [pX]
  rw [e]
  refine aw_aload_n (pc' := 1) eX7_both_0 rfl rfl trivial ?_
  refine aw_callv (pc' := 4) (nn := 0) ((ih f (by omega)) (d - 1) k p _ hM hk hp (by omega) (by omega)) eX7_both_1 rfl ⟨q945, q948, q62⟩ q947 q33 ⟨rfl, by decide +kernel, by decide +kernel, by decide +kernel⟩ rfl (by rw [hM.2.1]; exact ⟨rfl, rfl⟩) rfl ⟨by omega, by decide⟩ ⟨by omega, by omega⟩ rfl (Nat.le_of_ble_eq_true rfl) (fun v3 h4 hq5 => ?_)
  obtain ⟨rfl, hM1, hs2⟩ := hq5
  dsimp only [Option.toList, List.cons_append, List.nil_append]
  refine aw_istore_n (pc' := 5) eX7_both_4 rfl (by decide) ?_
  dsimp only [zst, zst2, zcut]
  exact lp_X7_both hn hk hd (f := f) (fun g hg => ih g (by omega)) f (Nat.le_refl f) (px U n f 0 k false p).1 _ _ (px U n f 0 k false p).2 _ mm.2 (by omega) rfl hM1 (fun h' a1 a2 => ⟨rfl, a1, (hs2).tr a2⟩)
theorem lp_X7_any {Q : Option Value → Hp → Prop} {n f : Nat} (hn : pOk U n) {k d : Nat} (hk : k ≤ 4) (hd : 17 ≤ d + 3 * k) (ih : ∀ g, g < f → BC l G u U n g) : ∀ (g : Nat), g ≤ f → ∀ (b : Bool) (x : Int32) (o : Option Value) (p : PP) (h : Hp), p.1 ≤ n → 4 * (n - p.1) + 2 ≤ g → x = zb b → MAt h u (mp (wk U k) p) → (∀ h', MAt h' u (mp (wk U k) (px U n g 4 k b p).2) → Same u 19 h h' → Q (some (.int (zb (px U n g 4 k b p).1))) h') → AW l G mX7_any d 0 0 Q 0 0 h [some (.ref u), some (.int x), o] [] 5 := by
  intro g
  induction g with
  | zero => intro _ b x o p h hp hf; omega
  | succ g ihg =>
    intro hg b x o p h hp hf hx hM hQ
    subst hx
    have n100 := hn.2
    refine aw_aload_n (pc' := 6) eX7_any_5 rfl rfl trivial ?_
    refine aw_bipush (pc' := 8) (v := 124) eX7_any_6 rfl (by decide) ?_
    refine aw_callv (pc' := 11) (nn := 1) (c_X7_isAt (d := d - 1) hM (show pOk (wk U k) n from hn) hp _ (by omega)) eX7_any_8 rfl ⟨q921, q924, q62⟩ q923 q27 ⟨rfl, by decide +kernel, by decide +kernel, by decide +kernel⟩ rfl (by rw [hM.2.1]; exact ⟨rfl, rfl⟩) rfl ⟨by omega, by decide⟩ ⟨by omega, by omega⟩ rfl (Nat.le_of_ble_eq_true rfl) (fun v1 h2 hq3 => ?_)
    obtain ⟨rfl, rfl⟩ := hq3
    dsimp only [Option.toList, List.cons_append, List.nil_append]
    refine aw_if_eq (pc' := 14) (tgt := 46) eX7_any_11 rfl (by decide) (fun c_11 => ?_) (fun c_11 => ?_)
    · refine aw_iload_n (pc' := 47) eX7_any_46 rfl rfl ?_
      refine aw_ret (v := some (.int _)) eX7_any_47 ⟨rfl, zbn _⟩ (by omega) (by omega) rfl ?_
      have g11 : pAt (U.1 7) n p 124 = false := by (have z := c_11; (try simp only [zb_eq0, Bool.not_eq_false, Bool.not_eq_true, decide_eq_true_eq, decide_eq_false_iff_not, Decidable.not_not] at z); exact z)
      have e : px U n (g + 1) 4 k b p = (b, p) := by
        show pX _ _ _ _ (g + 1) 4 k b p = _
        rw [pX]; exact if_neg (by rw [g11]; decide)
      rw [e] at hQ
      exact hQ _ hM Same.rf
    · have g11 : pAt (U.1 7) n p 124 = true := by (have z := c_11; (try simp only [zb_eq0, Bool.not_eq_false, Bool.not_eq_true, decide_eq_true_eq, decide_eq_false_iff_not, Decidable.not_not] at z); exact z)
      have b9 : p.1 < n := pAt_lt g11
      refine aw_aload_n (pc' := 15) eX7_any_14 rfl rfl trivial ?_
      refine aw_dup (pc' := 16) eX7_any_15 rfl rfl ?_
      refine aw_Mint (pc' := 19) (kf := 11) hM eX7_any_16 rfl (by decide) q800 ?_
      refine aw_iconst (pc' := 20) (v := 1) eX7_any_19 rfl (by decide) ?_
      refine aw_iadd (pc' := 21) eX7_any_20 rfl ?_
      refine aw_Mput (pc' := 24) 11 hM eX7_any_21 rfl (by decide) (fun z => absurd z (by decide)) q800 (fun h6 hM4 hs5 => ?_)
      have hMa := hM4
      rw [show msc (mp (wk U k) p) 11 ((mp (wk U k) p).2.1 11 + 1) = mp (wk U k) (p.1 + 1, p.2) from mp_at _ p (p.1 + 1) (nI_1 p.1)] at hMa
      refine aw_aload_n (pc' := 25) eX7_any_24 rfl rfl trivial ?_
      refine aw_callv (pc' := 28) (nn := 0) ((ih g (by omega)) (d - 1) k (p.1 + 1, p.2) _ hMa hk (by show p.1 + 1 ≤ n; omega) (by show 4 * (n - (p.1 + 1)) + 2 ≤ g; omega) (by omega)) eX7_any_25 rfl ⟨q941, q944, q62⟩ q943 q32 ⟨rfl, by decide +kernel, by decide +kernel, by decide +kernel⟩ rfl (by rw [hMa.2.1]; exact ⟨rfl, rfl⟩) rfl ⟨by omega, by decide⟩ ⟨by omega, by omega⟩ rfl (Nat.le_of_ble_eq_true rfl) (fun v9 h10 hq11 => ?_)
      obtain ⟨rfl, hM7, hs8⟩ := hq11
      have hT12 := hs5.tr hs8
      dsimp only [Option.toList, List.cons_append, List.nil_append]
      refine aw_istore_n (pc' := 29) eX7_any_28 rfl (by decide) ?_
      dsimp only [zst, zst2, zcut]
      refine aw_iload_n (pc' := 30) eX7_any_29 rfl rfl ?_
      refine aw_if_ne (pc' := 33) (tgt := 37) eX7_any_30 rfl (by decide) (fun c_30 => ?_) (fun c_30 => ?_)
      · refine aw_iconst (pc' := 38) (v := 1) eX7_any_37 rfl (by decide) ?_
        refine aw_goto eX7_any_38 (by decide) (tgt := 42) ?_
        refine aw_istore_n (pc' := 43) eX7_any_42 rfl (by decide) ?_
        dsimp only [zst, zst2, zcut]
        refine aw_goto eX7_any_43 (by decide) (tgt := 5) ?_
        have mm := pX_mon (R := U.1 7) (n := n) (L := U.1 9) (N := U.1 8) g 1 k false (p.1 + 1, p.2) (by show p.1 + 1 ≤ n; omega)
        have g30 : b = true := by (have z := c_30; (try simp only [zb_eq0, Bool.not_eq_false, Bool.not_eq_true, decide_eq_true_eq, decide_eq_false_iff_not, Decidable.not_not] at z); exact z)
        have e : px U n (g + 1) 4 k b p = px U n g 4 k (b || (px U n g 1 k false (p.1 + 1, p.2)).1) (px U n g 1 k false (p.1 + 1, p.2)).2 := by
          show pX _ _ _ _ (g + 1) 4 k b p = _
          rw [pX]; exact if_pos g11
        rw [e] at hQ
        have m1 : p.1 + 1 ≤ (px U n g 1 k false (p.1 + 1, p.2)).2.1 := mm.1
        refine ihg (by omega) (b || (px U n g 1 k false (p.1 + 1, p.2)).1) 1 _ (px U n g 1 k false (p.1 + 1, p.2)).2 _ mm.2 (by omega) (by simp [zb, g30]) hM7 (fun h' a1 a2 => hQ h' a1 ((hT12).tr a2))
      · refine aw_iload_n (pc' := 34) eX7_any_33 rfl rfl ?_
        refine aw_if_eq (pc' := 37) (tgt := 41) eX7_any_34 rfl (by decide) (fun c_34 => ?_) (fun c_34 => ?_)
        · refine aw_iconst (pc' := 42) (v := 0) eX7_any_41 rfl (by decide) ?_
          refine aw_istore_n (pc' := 43) eX7_any_42 rfl (by decide) ?_
          dsimp only [zst, zst2, zcut]
          refine aw_goto eX7_any_43 (by decide) (tgt := 5) ?_
          have mm := pX_mon (R := U.1 7) (n := n) (L := U.1 9) (N := U.1 8) g 1 k false (p.1 + 1, p.2) (by show p.1 + 1 ≤ n; omega)
          have g30 : b = false := by (have z := c_30; (try simp only [zb_eq0, Bool.not_eq_false, Bool.not_eq_true, decide_eq_true_eq, decide_eq_false_iff_not, Decidable.not_not] at z); exact z)
          have g34 : (px U n g 1 k false (p.1 + 1, p.2)).1 = false := by (have z := c_34; (try simp only [zb_eq0, Bool.not_eq_false, Bool.not_eq_true, decide_eq_true_eq, decide_eq_false_iff_not, Decidable.not_not] at z); exact z)
          have e : px U n (g + 1) 4 k b p = px U n g 4 k (b || (px U n g 1 k false (p.1 + 1, p.2)).1) (px U n g 1 k false (p.1 + 1, p.2)).2 := by
            show pX _ _ _ _ (g + 1) 4 k b p = _
            rw [pX]; exact if_pos g11
          rw [e] at hQ
          have m1 : p.1 + 1 ≤ (px U n g 1 k false (p.1 + 1, p.2)).2.1 := mm.1
          refine ihg (by omega) (b || (px U n g 1 k false (p.1 + 1, p.2)).1) 0 _ (px U n g 1 k false (p.1 + 1, p.2)).2 _ mm.2 (by omega) (by simp [zb, g30, g34]) hM7 (fun h' a1 a2 => hQ h' a1 ((hT12).tr a2))
        · refine aw_iconst (pc' := 38) (v := 1) eX7_any_37 rfl (by decide) ?_
          refine aw_goto eX7_any_38 (by decide) (tgt := 42) ?_
          refine aw_istore_n (pc' := 43) eX7_any_42 rfl (by decide) ?_
          dsimp only [zst, zst2, zcut]
          refine aw_goto eX7_any_43 (by decide) (tgt := 5) ?_
          have mm := pX_mon (R := U.1 7) (n := n) (L := U.1 9) (N := U.1 8) g 1 k false (p.1 + 1, p.2) (by show p.1 + 1 ≤ n; omega)
          have g30 : b = false := by (have z := c_30; (try simp only [zb_eq0, Bool.not_eq_false, Bool.not_eq_true, decide_eq_true_eq, decide_eq_false_iff_not, Decidable.not_not] at z); exact z)
          have g34 : (px U n g 1 k false (p.1 + 1, p.2)).1 = true := by (have z := c_34; (try simp only [zb_eq0, Bool.not_eq_false, Bool.not_eq_true, decide_eq_true_eq, decide_eq_false_iff_not, Decidable.not_not] at z); exact z)
          have e : px U n (g + 1) 4 k b p = px U n g 4 k (b || (px U n g 1 k false (p.1 + 1, p.2)).1) (px U n g 1 k false (p.1 + 1, p.2)).2 := by
            show pX _ _ _ _ (g + 1) 4 k b p = _
            rw [pX]; exact if_pos g11
          rw [e] at hQ
          have m1 : p.1 + 1 ≤ (px U n g 1 k false (p.1 + 1, p.2)).2.1 := mm.1
          refine ihg (by omega) (b || (px U n g 1 k false (p.1 + 1, p.2)).1) 1 _ (px U n g 1 k false (p.1 + 1, p.2)).2 _ mm.2 (by omega) (by simp [zb, g30, g34]) hM7 (fun h' a1 a2 => hQ h' a1 ((hT12).tr a2))
theorem step_E {n f : Nat} (hn : pOk U n) (ih : ∀ g, g < f + 1 → BC l G u U n g) : EC l G u U n (f + 1) := by
  intro d k p h hM hk hp hf hd
  have n100 := hn.2
  refine ct_of (lv := [some (.ref u), none, none]) (by decide +kernel) rfl (fun z => by cases z) (fun _ => rfl) (fun _ => Nat.le_of_ble_eq_true rfl) ?_
  have mm := pX_mon (R := U.1 7) (n := n) (L := U.1 9) (N := U.1 8) f 1 k false p hp
  have m1 : p.1 ≤ (px U n f 1 k false p).2.1 := mm.1
  have e : px U n (f + 1) 3 k false p = px U n f 4 k (px U n f 1 k false p).1 (px U n f 1 k false p).2 := by
    show pX _ _ _ _ (f + 1) 3 k false p = _
    rw [pX]
  rw [e]
  refine aw_aload_n (pc' := 1) eX7_any_0 rfl rfl trivial ?_
  refine aw_callv (pc' := 4) (nn := 0) ((ih f (by omega)) (d - 1) k p _ hM hk hp (by omega) (by omega)) eX7_any_1 rfl ⟨q941, q944, q62⟩ q943 q32 ⟨rfl, by decide +kernel, by decide +kernel, by decide +kernel⟩ rfl (by rw [hM.2.1]; exact ⟨rfl, rfl⟩) rfl ⟨by omega, by decide⟩ ⟨by omega, by omega⟩ rfl (Nat.le_of_ble_eq_true rfl) (fun v3 h4 hq5 => ?_)
  obtain ⟨rfl, hM1, hs2⟩ := hq5
  dsimp only [Option.toList, List.cons_append, List.nil_append]
  refine aw_istore_n (pc' := 5) eX7_any_4 rfl (by decide) ?_
  dsimp only [zst, zst2, zcut]
  exact lp_X7_any hn hk hd (f := f) (fun g hg => ih g (by omega)) f (Nat.le_refl f) (px U n f 1 k false p).1 _ _ (px U n f 1 k false p).2 _ mm.2 (by omega) rfl hM1 (fun h' a1 a2 => ⟨rfl, a1, (hs2).tr a2⟩)
theorem parse_all {n : Nat} (hn : pOk U n) : ∀ f, FC l G u U n f ∧ BC l G u U n f ∧ EC l G u U n f := by
  intro f
  induction f using Nat.strongRecOn with
  | _ f ih =>
    cases f with
    | zero => exact ⟨fun d k p h _ _ _ hf _ => absurd hf (by omega), fun d k p h _ _ _ hf _ => absurd hf (by omega), fun d k p h _ _ _ hf _ => absurd hf (by omega)⟩
    | succ f => exact ⟨step_F hn (ih f (by omega)), step_B hn (fun g hg => (ih g hg).1), step_E hn (fun g hg => (ih g hg).2.1)⟩
end M9
end
section
/-! the model's parser: clauses, a whole text -/
section M10
variable {l : Launch} {G : GT} {u : Nat} {U : MS} {d n : Nat} {h : Hp} {Q : Option Value → Hp → Prop}
/-- the model with sum s, room r -/
abbrev sr (U : MS) (s r : Int32) : MS := msc (msc U 14 s) 15 r
theorem sr_sum (U : MS) (s r s' : Int32) (k : Nat) (p : PP) : msc (mp (wk (sr U s r) k) p) 14 s' = mp (wk (sr U s' r) k) p := by
  unfold mp wk sr msc
  congr 2
  funext j
  by_cases h1 : j = 14
  · subst h1; simp
  · by_cases h2 : j = 11 <;> simp [h1, h2]
theorem sr_room (U : MS) (s r r' : Int32) (k : Nat) (p : PP) : msc (mp (wk (sr U s r) k) p) 15 r' = mp (wk (sr U s r') k) p := by
  unfold mp wk sr msc
  congr 2
  funext j
  by_cases h1 : j = 15
  · subst h1; simp
  · by_cases h2 : j = 11 <;> simp [h1, h2]
abbrev CS : Type := PP × Int32 × Int32
def pTl (R : Nat → Int32) (n : Nat) (L N : Nat → Int32) (w : Nat) (c : CS) : CS :=
  if w = 2 then ((pNum R n (pTk R n c.1 32)).2, c.2.1, (pNum R n (pTk R n c.1 32)).1)
  else ((pX R n L N 500 3 0 false (pTk R n (pNum R n (pTk R n c.1 32)).2 32)).2, c.2.1 + (if (pX R n L N 500 3 0 false (pTk R n (pNum R n (pTk R n c.1 32)).2 32)).1 = true then (if w = 0 then (pNum R n (pTk R n c.1 32)).1 else -(pNum R n (pTk R n c.1 32)).1) else 0), c.2.2)
def pWl (R : Nat → Int32) (n : Nat) (W : Nat → Int32) (w : Nat) : Nat → Nat → PP → PP
  | 0, _, p => p
  | j + 1, k, p => if W (5 * w + k) = 0 then p else pWl R n W w j (k + 1) (pTk R n p (W (5 * w + k)))
def pWh (R : Nat → Int32) (n : Nat) (p : PP) : Nat := if pAt R n p 114 = true then 2 else if p.1 + 1 < n ∧ R (p.1 + 1) = 119 then 1 else 0
def pCl (R : Nat → Int32) (n : Nat) (L N W : Nat → Int32) (c : CS) : CS := pTl R n L N (pWh R n c.1) (pWl R n W (pWh R n c.1) 5 0 c.1, c.2)
theorem pWl_le {R : Nat → Int32} {n : Nat} {W : Nat → Int32} {w : Nat} : ∀ (j k : Nat) (p : PP), p.1 ≤ n → (pWl R n W w j k p).1 ≤ n
  | 0, _, _, h => h
  | j + 1, k, p, h => by
    unfold pWl
    split
    · exact h
    · exact pWl_le j (k + 1) _ (pTk_le h)
theorem pTl_le {R : Nat → Int32} {n : Nat} {L N : Nat → Int32} {w : Nat} {c : CS} (h : c.1.1 ≤ n) : (pTl R n L N w c).1.1 ≤ n := by
  unfold pTl
  split
  · exact pNum_le (pTk_le h)
  · exact (pX_mon 500 3 0 false _ (pTk_le (pNum_le (pTk_le h)))).2
theorem pCl_le {R : Nat → Int32} {n : Nat} {L N W : Nat → Int32} {c : CS} (h : c.1.1 ≤ n) : (pCl R n L N W c).1.1 ≤ n := pTl_le (pWl_le 5 0 _ h)

abbrev mX7_clause : MT := (RX7, cX7_clause, 4, none, false)
theorem eX7_clause_0 : decode mX7_clause.2.1 0 = .ok (.aload_n 0, 1) := by decide +kernel
theorem eX7_clause_1 : decode mX7_clause.2.1 1 = .ok (.bipush 114, 2) := by decide +kernel
theorem eX7_clause_3 : decode mX7_clause.2.1 3 = .ok (.invokevirtual 136, 3) := by decide +kernel
theorem eX7_clause_6 : decode mX7_clause.2.1 6 = .ok (.ifCond .eq 7, 3) := by decide +kernel
theorem eX7_clause_9 : decode mX7_clause.2.1 9 = .ok (.iconst 2, 1) := by decide +kernel
theorem eX7_clause_10 : decode mX7_clause.2.1 10 = .ok (.goto 37, 3) := by decide +kernel
theorem eX7_clause_13 : decode mX7_clause.2.1 13 = .ok (.aload_n 0, 1) := by decide +kernel
theorem eX7_clause_14 : decode mX7_clause.2.1 14 = .ok (.getfield 130, 3) := by decide +kernel
theorem eX7_clause_17 : decode mX7_clause.2.1 17 = .ok (.iconst 1, 1) := by decide +kernel
theorem eX7_clause_18 : decode mX7_clause.2.1 18 = .ok (.iadd, 1) := by decide +kernel
theorem eX7_clause_19 : decode mX7_clause.2.1 19 = .ok (.aload_n 0, 1) := by decide +kernel
theorem eX7_clause_20 : decode mX7_clause.2.1 20 = .ok (.getfield 133, 3) := by decide +kernel
theorem eX7_clause_23 : decode mX7_clause.2.1 23 = .ok (.if_icmp .ge 23, 3) := by decide +kernel
theorem eX7_clause_26 : decode mX7_clause.2.1 26 = .ok (.aload_n 0, 1) := by decide +kernel
theorem eX7_clause_27 : decode mX7_clause.2.1 27 = .ok (.getfield 34, 3) := by decide +kernel
theorem eX7_clause_30 : decode mX7_clause.2.1 30 = .ok (.aload_n 0, 1) := by decide +kernel
theorem eX7_clause_31 : decode mX7_clause.2.1 31 = .ok (.getfield 130, 3) := by decide +kernel
theorem eX7_clause_34 : decode mX7_clause.2.1 34 = .ok (.iconst 1, 1) := by decide +kernel
theorem eX7_clause_35 : decode mX7_clause.2.1 35 = .ok (.iadd, 1) := by decide +kernel
theorem eX7_clause_36 : decode mX7_clause.2.1 36 = .ok (.iaload, 1) := by decide +kernel
theorem eX7_clause_37 : decode mX7_clause.2.1 37 = .ok (.bipush 119, 2) := by decide +kernel
theorem eX7_clause_39 : decode mX7_clause.2.1 39 = .ok (.if_icmp .ne 7, 3) := by decide +kernel
theorem eX7_clause_42 : decode mX7_clause.2.1 42 = .ok (.iconst 1, 1) := by decide +kernel
theorem eX7_clause_43 : decode mX7_clause.2.1 43 = .ok (.goto 4, 3) := by decide +kernel
theorem eX7_clause_46 : decode mX7_clause.2.1 46 = .ok (.iconst 0, 1) := by decide +kernel
theorem eX7_clause_47 : decode mX7_clause.2.1 47 = .ok (.istore_n 1, 1) := by decide +kernel
theorem eX7_clause_48 : decode mX7_clause.2.1 48 = .ok (.iconst 0, 1) := by decide +kernel
theorem eX7_clause_49 : decode mX7_clause.2.1 49 = .ok (.istore_n 2, 1) := by decide +kernel
theorem eX7_clause_50 : decode mX7_clause.2.1 50 = .ok (.iload_n 2, 1) := by decide +kernel
theorem eX7_clause_51 : decode mX7_clause.2.1 51 = .ok (.iconst 5, 1) := by decide +kernel
theorem eX7_clause_52 : decode mX7_clause.2.1 52 = .ok (.if_icmp .ge 36, 3) := by decide +kernel
theorem eX7_clause_55 : decode mX7_clause.2.1 55 = .ok (.aload_n 0, 1) := by decide +kernel
theorem eX7_clause_56 : decode mX7_clause.2.1 56 = .ok (.getfield 44, 3) := by decide +kernel
theorem eX7_clause_59 : decode mX7_clause.2.1 59 = .ok (.iconst 5, 1) := by decide +kernel
theorem eX7_clause_60 : decode mX7_clause.2.1 60 = .ok (.iload_n 1, 1) := by decide +kernel
theorem eX7_clause_61 : decode mX7_clause.2.1 61 = .ok (.imul, 1) := by decide +kernel
theorem eX7_clause_62 : decode mX7_clause.2.1 62 = .ok (.iload_n 2, 1) := by decide +kernel
theorem eX7_clause_63 : decode mX7_clause.2.1 63 = .ok (.iadd, 1) := by decide +kernel
theorem eX7_clause_64 : decode mX7_clause.2.1 64 = .ok (.caload, 1) := by decide +kernel
theorem eX7_clause_65 : decode mX7_clause.2.1 65 = .ok (.ifCond .eq 23, 3) := by decide +kernel
theorem eX7_clause_68 : decode mX7_clause.2.1 68 = .ok (.aload_n 0, 1) := by decide +kernel
theorem eX7_clause_69 : decode mX7_clause.2.1 69 = .ok (.aload_n 0, 1) := by decide +kernel
theorem eX7_clause_70 : decode mX7_clause.2.1 70 = .ok (.getfield 44, 3) := by decide +kernel
theorem eX7_clause_73 : decode mX7_clause.2.1 73 = .ok (.iconst 5, 1) := by decide +kernel
theorem eX7_clause_74 : decode mX7_clause.2.1 74 = .ok (.iload_n 1, 1) := by decide +kernel
theorem eX7_clause_75 : decode mX7_clause.2.1 75 = .ok (.imul, 1) := by decide +kernel
theorem eX7_clause_76 : decode mX7_clause.2.1 76 = .ok (.iload_n 2, 1) := by decide +kernel
theorem eX7_clause_77 : decode mX7_clause.2.1 77 = .ok (.iadd, 1) := by decide +kernel
theorem eX7_clause_78 : decode mX7_clause.2.1 78 = .ok (.caload, 1) := by decide +kernel
theorem eX7_clause_79 : decode mX7_clause.2.1 79 = .ok (.invokevirtual 143, 3) := by decide +kernel
theorem eX7_clause_82 : decode mX7_clause.2.1 82 = .ok (.iinc 2 1, 3) := by decide +kernel
theorem eX7_clause_85 : decode mX7_clause.2.1 85 = .ok (.goto (-35), 3) := by decide +kernel
theorem eX7_clause_88 : decode mX7_clause.2.1 88 = .ok (.aload_n 0, 1) := by decide +kernel
theorem eX7_clause_89 : decode mX7_clause.2.1 89 = .ok (.bipush 32, 2) := by decide +kernel
theorem eX7_clause_91 : decode mX7_clause.2.1 91 = .ok (.invokevirtual 143, 3) := by decide +kernel
theorem eX7_clause_94 : decode mX7_clause.2.1 94 = .ok (.aload_n 0, 1) := by decide +kernel
theorem eX7_clause_95 : decode mX7_clause.2.1 95 = .ok (.invokevirtual 146, 3) := by decide +kernel
theorem eX7_clause_98 : decode mX7_clause.2.1 98 = .ok (.istore_n 2, 1) := by decide +kernel
theorem eX7_clause_99 : decode mX7_clause.2.1 99 = .ok (.iload_n 1, 1) := by decide +kernel
theorem eX7_clause_100 : decode mX7_clause.2.1 100 = .ok (.iconst 2, 1) := by decide +kernel
theorem eX7_clause_101 : decode mX7_clause.2.1 101 = .ok (.if_icmp .ne 9, 3) := by decide +kernel
theorem eX7_clause_104 : decode mX7_clause.2.1 104 = .ok (.aload_n 0, 1) := by decide +kernel
theorem eX7_clause_105 : decode mX7_clause.2.1 105 = .ok (.iload_n 2, 1) := by decide +kernel
theorem eX7_clause_106 : decode mX7_clause.2.1 106 = .ok (.putfield 165, 3) := by decide +kernel
theorem eX7_clause_109 : decode mX7_clause.2.1 109 = .ok (.return_, 1) := by decide +kernel
theorem eX7_clause_110 : decode mX7_clause.2.1 110 = .ok (.aload_n 0, 1) := by decide +kernel
theorem eX7_clause_111 : decode mX7_clause.2.1 111 = .ok (.bipush 32, 2) := by decide +kernel
theorem eX7_clause_113 : decode mX7_clause.2.1 113 = .ok (.invokevirtual 143, 3) := by decide +kernel
theorem eX7_clause_116 : decode mX7_clause.2.1 116 = .ok (.aload_n 0, 1) := by decide +kernel
theorem eX7_clause_117 : decode mX7_clause.2.1 117 = .ok (.iconst 0, 1) := by decide +kernel
theorem eX7_clause_118 : decode mX7_clause.2.1 118 = .ok (.putfield 150, 3) := by decide +kernel
theorem eX7_clause_121 : decode mX7_clause.2.1 121 = .ok (.aload_n 0, 1) := by decide +kernel
theorem eX7_clause_122 : decode mX7_clause.2.1 122 = .ok (.invokevirtual 156, 3) := by decide +kernel
theorem eX7_clause_125 : decode mX7_clause.2.1 125 = .ok (.istore_n 3, 1) := by decide +kernel
theorem eX7_clause_126 : decode mX7_clause.2.1 126 = .ok (.aload_n 0, 1) := by decide +kernel
theorem eX7_clause_127 : decode mX7_clause.2.1 127 = .ok (.dup, 1) := by decide +kernel
theorem eX7_clause_128 : decode mX7_clause.2.1 128 = .ok (.getfield 168, 3) := by decide +kernel
theorem eX7_clause_131 : decode mX7_clause.2.1 131 = .ok (.iload_n 3, 1) := by decide +kernel
theorem eX7_clause_132 : decode mX7_clause.2.1 132 = .ok (.ifCond .ne 7, 3) := by decide +kernel
theorem eX7_clause_135 : decode mX7_clause.2.1 135 = .ok (.iconst 0, 1) := by decide +kernel
theorem eX7_clause_136 : decode mX7_clause.2.1 136 = .ok (.goto 13, 3) := by decide +kernel
theorem eX7_clause_139 : decode mX7_clause.2.1 139 = .ok (.iload_n 1, 1) := by decide +kernel
theorem eX7_clause_140 : decode mX7_clause.2.1 140 = .ok (.ifCond .ne 7, 3) := by decide +kernel
theorem eX7_clause_143 : decode mX7_clause.2.1 143 = .ok (.iload_n 2, 1) := by decide +kernel
theorem eX7_clause_144 : decode mX7_clause.2.1 144 = .ok (.goto 5, 3) := by decide +kernel
theorem eX7_clause_147 : decode mX7_clause.2.1 147 = .ok (.iload_n 2, 1) := by decide +kernel
theorem eX7_clause_148 : decode mX7_clause.2.1 148 = .ok (.ineg, 1) := by decide +kernel
theorem eX7_clause_149 : decode mX7_clause.2.1 149 = .ok (.iadd, 1) := by decide +kernel
theorem eX7_clause_150 : decode mX7_clause.2.1 150 = .ok (.putfield 168, 3) := by decide +kernel
theorem eX7_clause_153 : decode mX7_clause.2.1 153 = .ok (.return_, 1) := by decide +kernel
theorem cl_tail (hn : pOk U n) {k w : Nat} (hw : w ≤ 2) {c : CS} (hp : c.1.1 ≤ n) (hM : MAt h u (mp (wk (sr U c.2.1 c.2.2) k) c.1)) (o2 o3 : Option Value) (hd : 18 ≤ d) (hQ : ∀ h' k', MAt h' u (mp (wk (sr U (pTl (U.1 7) n (U.1 9) (U.1 8) w c).2.1 (pTl (U.1 7) n (U.1 9) (U.1 8) w c).2.2) k') (pTl (U.1 7) n (U.1 9) (U.1 8) w c).1) → Same u 19 h h' → Q none h') : AW l G mX7_clause d 0 0 Q 0 0 h [some (.ref u), some (.int (nI w)), o2, o3] [] 88 := by
  have n100 := hn.2
  refine aw_aload_n (pc' := 89) eX7_clause_88 rfl rfl trivial ?_
  refine aw_bipush (pc' := 91) (v := 32) eX7_clause_89 rfl (by decide) ?_
  refine aw_callv (pc' := 94) (nn := 1) (c_X7_takes (d := d - 1) hM (show pOk (wk (sr U c.2.1 c.2.2) k) n from hn) hp _ (by omega)) eX7_clause_91 rfl ⟨q925, q928, q62⟩ q927 q28 ⟨rfl, by decide +kernel, by decide +kernel, by decide +kernel⟩ rfl (by rw [hM.2.1]; exact ⟨rfl, rfl⟩) rfl ⟨by omega, by decide⟩ ⟨by omega, by omega⟩ rfl (Nat.le_of_ble_eq_true rfl) (fun v3 h4 hq5 => ?_)
  obtain ⟨rfl, hM1, hs2⟩ := hq5
  dsimp only [Option.toList, List.cons_append, List.nil_append]
  refine aw_aload_n (pc' := 95) eX7_clause_94 rfl rfl trivial ?_
  refine aw_callv (pc' := 98) (nn := 0) (c_X7_number (d := d - 1) hM1 (show pOk (wk (sr U c.2.1 c.2.2) k) n from hn) (pTk_le hp) (by omega)) eX7_clause_95 rfl ⟨q929, q932, q62⟩ q931 q29 ⟨rfl, by decide +kernel, by decide +kernel, by decide +kernel⟩ rfl (by rw [hM1.2.1]; exact ⟨rfl, rfl⟩) rfl ⟨by omega, by decide⟩ ⟨by omega, by omega⟩ rfl (Nat.le_of_ble_eq_true rfl) (fun v8 h9 hq10 => ?_)
  obtain ⟨rfl, hM6, hs7⟩ := hq10
  have hT11 := hs2.tr hs7
  dsimp only [Option.toList, List.cons_append, List.nil_append]
  refine aw_istore_n (pc' := 99) eX7_clause_98 rfl (by decide) ?_
  dsimp only [zst, zst2, zcut]
  refine aw_iload_n (pc' := 100) eX7_clause_99 rfl rfl ?_
  refine aw_iconst (pc' := 101) (v := 2) eX7_clause_100 rfl (by decide) ?_
  refine aw_icmp_ne (pc' := 104) (tgt := 110) eX7_clause_101 rfl (by decide) (fun c_101 => ?_) (fun c_101 => ?_)
  · have w2 : ¬ w = 2 := fun z => by
      rw [z] at c_101
      exact absurd rfl (by first | exact c_101 | exact fun y => c_101 y)
    refine aw_aload_n (pc' := 111) eX7_clause_110 rfl rfl trivial ?_
    refine aw_bipush (pc' := 113) (v := 32) eX7_clause_111 rfl (by decide) ?_
    refine aw_callv (pc' := 116) (nn := 1) (c_X7_takes (d := d - 1) hM6 (show pOk (wk (sr U c.2.1 c.2.2) k) n from hn) (pNum_le (pTk_le hp)) _ (by omega)) eX7_clause_113 rfl ⟨q925, q928, q62⟩ q927 q28 ⟨rfl, by decide +kernel, by decide +kernel, by decide +kernel⟩ rfl (by rw [hM6.2.1]; exact ⟨rfl, rfl⟩) rfl ⟨by omega, by decide⟩ ⟨by omega, by omega⟩ rfl (Nat.le_of_ble_eq_true rfl) (fun v14 h15 hq16 => ?_)
    obtain ⟨rfl, hM12, hs13⟩ := hq16
    have hT17 := hT11.tr hs13
    dsimp only [Option.toList, List.cons_append, List.nil_append]
    refine aw_aload_n (pc' := 117) eX7_clause_116 rfl rfl trivial ?_
    refine aw_iconst (pc' := 118) (v := 0) eX7_clause_117 rfl (by decide) ?_
    refine aw_Mput (pc' := 121) 13 hM12 eX7_clause_118 rfl (by decide) (fun z => absurd z (by decide)) q802 (fun h20 hM18 hs19 => ?_)
    have hT21 := hT17.tr hs19
    have hMb := hM18
    rw [wk_in _ _ 0 _ (x := 0) rfl] at hMb
    refine aw_aload_n (pc' := 122) eX7_clause_121 rfl rfl trivial ?_
    refine aw_callv (pc' := 125) (nn := 0) (((parse_all (U := sr U c.2.1 c.2.2) (show pOk (sr U c.2.1 c.2.2) n from hn) 500).2.2) (d - 1) 0 (pTk (U.1 7) n (pNum (U.1 7) n (pTk (U.1 7) n c.1 32)).2 32) _ hMb (by omega) (pTk_le (pNum_le (pTk_le hp))) (by have := hn.2; omega) (by omega)) eX7_clause_122 rfl ⟨q937, q940, q62⟩ q939 q31 ⟨rfl, by decide +kernel, by decide +kernel, by decide +kernel⟩ rfl (by rw [hMb.2.1]; exact ⟨rfl, rfl⟩) rfl ⟨by omega, by decide⟩ ⟨by omega, by omega⟩ rfl (Nat.le_of_ble_eq_true rfl) (fun v24 h25 hq26 => ?_)
    obtain ⟨rfl, hM22, hs23⟩ := hq26
    have hT27 := hT21.tr hs23
    dsimp only [Option.toList, List.cons_append, List.nil_append]
    refine aw_istore_n (pc' := 126) eX7_clause_125 rfl (by decide) ?_
    dsimp only [zst, zst2, zcut]
    refine aw_aload_n (pc' := 127) eX7_clause_126 rfl rfl trivial ?_
    refine aw_dup (pc' := 128) eX7_clause_127 rfl rfl ?_
    refine aw_Mint (pc' := 131) (kf := 14) hM22 eX7_clause_128 rfl (by decide) q803 ?_
    refine aw_iload_n (pc' := 132) eX7_clause_131 rfl rfl ?_
    refine aw_if_ne (pc' := 135) (tgt := 139) eX7_clause_132 rfl (by decide) (fun c_132 => ?_) (fun c_132 => ?_)
    · refine aw_iload_n (pc' := 140) eX7_clause_139 rfl rfl ?_
      refine aw_if_ne (pc' := 143) (tgt := 147) eX7_clause_140 rfl (by decide) (fun c_140 => ?_) (fun c_140 => ?_)
      · refine aw_iload_n (pc' := 148) eX7_clause_147 rfl rfl ?_
        refine aw_ineg (pc' := 149) eX7_clause_148 rfl ?_
        refine aw_iadd (pc' := 150) eX7_clause_149 rfl ?_
        refine aw_Mput (pc' := 153) 14 hM22 eX7_clause_150 rfl (by decide) (fun z => absurd z (by decide)) q803 (fun h30 hM28 hs29 => ?_)
        have hT31 := hT27.tr hs29
        refine aw_ret (v := none) eX7_clause_153 rfl (by omega) (by omega) rfl ?_
        have g132 : (pX (U.1 7) n (U.1 9) (U.1 8) 500 3 0 false (pTk (U.1 7) n (pNum (U.1 7) n (pTk (U.1 7) n c.1 32)).2 32)).1 = true := by (have z := c_132; (try simp only [zb_eq0, Bool.not_eq_false, Bool.not_eq_true, decide_eq_true_eq, decide_eq_false_iff_not, Decidable.not_not] at z); exact z)
        have w0 : ¬ w = 0 := fun z => absurd (show nI w = 0 by rw [z]; rfl) (by first | exact c_140 | exact fun y => y c_140)
        have hM9 := hM28
        have e : pTl (U.1 7) n (U.1 9) (U.1 8) w c = ((pX (U.1 7) n (U.1 9) (U.1 8) 500 3 0 false (pTk (U.1 7) n (pNum (U.1 7) n (pTk (U.1 7) n c.1 32)).2 32)).2, c.2.1 + (-(pNum (U.1 7) n (pTk (U.1 7) n c.1 32)).1), c.2.2) := by rw [pTl, if_neg w2]; simp [g132, w0]
        rw [e] at hQ
        rw [sr_sum] at hM9
        exact hQ _ 0 hM9 hT31
      · refine aw_iload_n (pc' := 144) eX7_clause_143 rfl rfl ?_
        refine aw_goto eX7_clause_144 (by decide) (tgt := 149) ?_
        refine aw_iadd (pc' := 150) eX7_clause_149 rfl ?_
        refine aw_Mput (pc' := 153) 14 hM22 eX7_clause_150 rfl (by decide) (fun z => absurd z (by decide)) q803 (fun h34 hM32 hs33 => ?_)
        have hT35 := hT27.tr hs33
        refine aw_ret (v := none) eX7_clause_153 rfl (by omega) (by omega) rfl ?_
        have g132 : (pX (U.1 7) n (U.1 9) (U.1 8) 500 3 0 false (pTk (U.1 7) n (pNum (U.1 7) n (pTk (U.1 7) n c.1 32)).2 32)).1 = true := by (have z := c_132; (try simp only [zb_eq0, Bool.not_eq_false, Bool.not_eq_true, decide_eq_true_eq, decide_eq_false_iff_not, Decidable.not_not] at z); exact z)
        have w0 : w = 0 := (nI_eq (a := w) (b := 0) (by omega) (by omega)).mp (by first | exact c_140 | exact Decidable.not_not.mp c_140)
        have hM9 := hM32
        have e : pTl (U.1 7) n (U.1 9) (U.1 8) w c = ((pX (U.1 7) n (U.1 9) (U.1 8) 500 3 0 false (pTk (U.1 7) n (pNum (U.1 7) n (pTk (U.1 7) n c.1 32)).2 32)).2, c.2.1 + (pNum (U.1 7) n (pTk (U.1 7) n c.1 32)).1, c.2.2) := by rw [pTl, if_neg w2]; simp [g132, w0]
        rw [e] at hQ
        rw [sr_sum] at hM9
        exact hQ _ 0 hM9 hT35
    · refine aw_iconst (pc' := 136) (v := 0) eX7_clause_135 rfl (by decide) ?_
      refine aw_goto eX7_clause_136 (by decide) (tgt := 149) ?_
      refine aw_iadd (pc' := 150) eX7_clause_149 rfl ?_
      refine aw_Mput (pc' := 153) 14 hM22 eX7_clause_150 rfl (by decide) (fun z => absurd z (by decide)) q803 (fun h38 hM36 hs37 => ?_)
      have hT39 := hT27.tr hs37
      refine aw_ret (v := none) eX7_clause_153 rfl (by omega) (by omega) rfl ?_
      have g132 : (pX (U.1 7) n (U.1 9) (U.1 8) 500 3 0 false (pTk (U.1 7) n (pNum (U.1 7) n (pTk (U.1 7) n c.1 32)).2 32)).1 = false := by (have z := c_132; (try simp only [zb_eq0, Bool.not_eq_false, Bool.not_eq_true, decide_eq_true_eq, decide_eq_false_iff_not, Decidable.not_not] at z); exact z)
      have hM9 := hM36
      have e : pTl (U.1 7) n (U.1 9) (U.1 8) w c = ((pX (U.1 7) n (U.1 9) (U.1 8) 500 3 0 false (pTk (U.1 7) n (pNum (U.1 7) n (pTk (U.1 7) n c.1 32)).2 32)).2, c.2.1 + 0, c.2.2) := by rw [pTl, if_neg w2]; simp [g132]
      rw [e] at hQ
      rw [sr_sum] at hM9
      exact hQ _ 0 hM9 hT39
  · have w2 : w = 2 := by
      have z := c_101
      exact (nI_eq (a := w) (b := 2) (by omega) (by omega)).mp (by first | exact z | exact Decidable.not_not.mp z)
    refine aw_aload_n (pc' := 105) eX7_clause_104 rfl rfl trivial ?_
    refine aw_iload_n (pc' := 106) eX7_clause_105 rfl rfl ?_
    refine aw_Mput (pc' := 109) 15 hM6 eX7_clause_106 rfl (by decide) (fun z => absurd z (by decide)) q804 (fun h42 hM40 hs41 => ?_)
    have hT43 := hT11.tr hs41
    refine aw_ret (v := none) eX7_clause_109 rfl (by omega) (by omega) rfl ?_
    have hM9 := hM40
    rw [sr_room] at hM9
    have e : pTl (U.1 7) n (U.1 9) (U.1 8) w c = ((pNum (U.1 7) n (pTk (U.1 7) n c.1 32)).2, c.2.1, (pNum (U.1 7) n (pTk (U.1 7) n c.1 32)).1) := if_pos w2
    rw [e] at hQ
    exact hQ _ k hM9 hT43
theorem ix15 {w i : Nat} (h : 5 * w + i < 15) : (5 * nI w + nI i).toNatClampNeg = 5 * w + i ∧ vp_in (5 * nI w + nI i) 15 := by
  have e : 5 * nI w + nI i = nI (5 * w + i) := nI_muladd 5 w i
  rw [e]
  exact ⟨nI_clamp (by omega), vp_in_nI h (by omega)⟩
theorem cl_words (hn : pOk U n) {k w : Nat} (hw : w ≤ 2) {c : CS} (o3 : Option Value) (hd : 2 ≤ d) : ∀ (j i : Nat) (y : Int32) (p : PP) (h : Hp), i + j = 5 → y = nI i → p.1 ≤ n → MAt h u (mp (wk (sr U c.2.1 c.2.2) k) p) → (∀ h', MAt h' u (mp (wk (sr U c.2.1 c.2.2) k) (pWl (U.1 7) n (U.1 10) w j i p)) → Same u 19 h h' → ∀ y', AW l G mX7_clause d 0 0 Q 0 0 h' [some (.ref u), some (.int (nI w)), some (.int y'), o3] [] 88) → AW l G mX7_clause d 0 0 Q 0 0 h [some (.ref u), some (.int (nI w)), some (.int y), o3] [] 50 := by
  intro j
  induction j with
  | zero =>
    intro i y p h hij hy hp hM hQ
    subst hy
    have i5 : i = 5 := by omega
    subst i5
    refine aw_iload_n (pc' := 51) eX7_clause_50 rfl rfl ?_
    refine aw_iconst (pc' := 52) (v := 5) eX7_clause_51 rfl (by decide) ?_
    refine aw_icmp_ge (pc' := 55) (tgt := 88) eX7_clause_52 rfl (by decide) (fun c_52 => ?_) (fun c_52 => ?_)
    · exact hQ _ hM Same.rf _
    · exact absurd (by decide) c_52
  | succ j ih =>
    intro i y p h hij hy hp hM hQ
    subst hy
    refine aw_iload_n (pc' := 51) eX7_clause_50 rfl rfl ?_
    refine aw_iconst (pc' := 52) (v := 5) eX7_clause_51 rfl (by decide) ?_
    refine aw_icmp_ge (pc' := 55) (tgt := 88) eX7_clause_52 rfl (by decide) (fun c_52 => ?_) (fun c_52 => ?_)
    · exact absurd (ge_nI (a := i) (b := 5) (by omega) (by omega) c_52) (by omega)
    · have c9 := nge_nI (a := i) (b := 5) (by omega) (by omega) c_52
      obtain ⟨hx, hv⟩ := ix15 (w := w) (i := i) (by omega)
      refine aw_aload_n (pc' := 56) eX7_clause_55 rfl rfl trivial ?_
      refine aw_Mref (pc' := 59) (kf := 18) 10 hM eX7_clause_56 rfl (by decide) rfl q807 ?_
      refine aw_iconst (pc' := 60) (v := 5) eX7_clause_59 rfl (by decide) ?_
      refine aw_iload_n (pc' := 61) eX7_clause_60 rfl rfl ?_
      refine aw_imul (pc' := 62) eX7_clause_61 rfl ?_
      refine aw_iload_n (pc' := 63) eX7_clause_62 rfl rfl ?_
      refine aw_iadd (pc' := 64) eX7_clause_63 rfl ?_
      refine aw_Mcld (pc' := 65) 10 hM eX7_clause_64 rfl (by decide) hv ?_
      refine aw_if_eq (pc' := 68) (tgt := 88) eX7_clause_65 rfl (by decide) (fun c_65 => ?_) (fun c_65 => ?_)
      · rw [show (mp (wk (sr U c.2.1 c.2.2) k) p).1 = U.1 from rfl, hx] at c_65
        have g65 : U.1 10 (5 * w + i) = 0 := c_65
        rw [pWl, if_pos g65] at hQ
        exact hQ _ hM Same.rf _
      · refine aw_aload_n (pc' := 69) eX7_clause_68 rfl rfl trivial ?_
        refine aw_aload_n (pc' := 70) eX7_clause_69 rfl rfl trivial ?_
        refine aw_Mref (pc' := 73) (kf := 18) 10 hM eX7_clause_70 rfl (by decide) rfl q807 ?_
        refine aw_iconst (pc' := 74) (v := 5) eX7_clause_73 rfl (by decide) ?_
        refine aw_iload_n (pc' := 75) eX7_clause_74 rfl rfl ?_
        refine aw_imul (pc' := 76) eX7_clause_75 rfl ?_
        refine aw_iload_n (pc' := 77) eX7_clause_76 rfl rfl ?_
        refine aw_iadd (pc' := 78) eX7_clause_77 rfl ?_
        refine aw_Mcld (pc' := 79) 10 hM eX7_clause_78 rfl (by decide) hv ?_
        refine aw_callv (pc' := 82) (nn := 1) (c_X7_takes (d := d - 1) hM (show pOk (wk (sr U c.2.1 c.2.2) k) n from hn) hp _ (by omega)) eX7_clause_79 rfl ⟨q925, q928, q62⟩ q927 q28 ⟨rfl, by decide +kernel, by decide +kernel, by decide +kernel⟩ rfl (by rw [hM.2.1]; exact ⟨rfl, rfl⟩) rfl ⟨by omega, by decide⟩ ⟨by omega, by omega⟩ rfl (Nat.le_of_ble_eq_true rfl) (fun v3 h4 hq5 => ?_)
        obtain ⟨rfl, hM1, hs2⟩ := hq5
        dsimp only [Option.toList, List.cons_append, List.nil_append]
        refine aw_iinc (pc' := 85) eX7_clause_82 rfl rfl rfl (by decide) ?_
        dsimp only [zst, zst2, zcut]
        refine aw_goto eX7_clause_85 (by decide) (tgt := 50) ?_
        rw [show (mp (wk (sr U c.2.1 c.2.2) k) p).1 = U.1 from rfl, hx] at c_65
        have g65 : ¬ U.1 10 (5 * w + i) = 0 := c_65
        refine ih (i + 1) _ (pTk (U.1 7) n p (U.1 10 (5 * w + i))) _ (by omega) (nI_inc i) (pTk_le hp) ?_ (fun h' m s => ?_)
        · have z := hM1
          rw [hx] at z
          exact z
        · rw [pWl, if_neg g65] at hQ
          exact hQ h' m ((hs2).tr s)
theorem c_X7_clause (hn : pOk U n) {k : Nat} {c : CS} (hp : c.1.1 ≤ n) (hM : MAt h u (mp (wk (sr U c.2.1 c.2.2) k) c.1)) (hd : 18 ≤ d) : Ct l G mX7_clause yX7_clause d 0 0 [.ref u] h (fun r h' => r = none ∧ ∃ k', MAt h' u (mp (wk (sr U (pCl (U.1 7) n (U.1 9) (U.1 8) (U.1 10) c).2.1 (pCl (U.1 7) n (U.1 9) (U.1 8) (U.1 10) c).2.2) k') (pCl (U.1 7) n (U.1 9) (U.1 8) (U.1 10) c).1) ∧ Same u 19 h h') := by
  have n100 := hn.2
  refine ct_of (lv := [some (.ref u), none, none, none]) (by decide +kernel) rfl (fun z => by cases z) (fun _ => rfl) (fun _ => Nat.le_of_ble_eq_true rfl) ?_
  have hQ : ∀ h' k', MAt h' u (mp (wk (sr U (pCl (U.1 7) n (U.1 9) (U.1 8) (U.1 10) c).2.1 (pCl (U.1 7) n (U.1 9) (U.1 8) (U.1 10) c).2.2) k') (pCl (U.1 7) n (U.1 9) (U.1 8) (U.1 10) c).1) → Same u 19 h h' → (fun (r : Option Value) (h' : Hp) => r = none ∧ ∃ k', MAt h' u (mp (wk (sr U (pCl (U.1 7) n (U.1 9) (U.1 8) (U.1 10) c).2.1 (pCl (U.1 7) n (U.1 9) (U.1 8) (U.1 10) c).2.2) k') (pCl (U.1 7) n (U.1 9) (U.1 8) (U.1 10) c).1) ∧ Same u 19 h h') none h' := fun h' k' a b => ⟨rfl, k', a, b⟩
  generalize (fun (r : Option Value) (h' : Hp) => r = none ∧ ∃ k', MAt h' u (mp (wk (sr U (pCl (U.1 7) n (U.1 9) (U.1 8) (U.1 10) c).2.1 (pCl (U.1 7) n (U.1 9) (U.1 8) (U.1 10) c).2.2) k') (pCl (U.1 7) n (U.1 9) (U.1 8) (U.1 10) c).1) ∧ Same u 19 h h') = Q at hQ ⊢
  refine aw_aload_n (pc' := 1) eX7_clause_0 rfl rfl trivial ?_
  refine aw_bipush (pc' := 3) (v := 114) eX7_clause_1 rfl (by decide) ?_
  refine aw_callv (pc' := 6) (nn := 1) (c_X7_isAt (d := d - 1) hM (show pOk (wk (sr U c.2.1 c.2.2) k) n from hn) hp _ (by omega)) eX7_clause_3 rfl ⟨q921, q924, q62⟩ q923 q27 ⟨rfl, by decide +kernel, by decide +kernel, by decide +kernel⟩ rfl (by rw [hM.2.1]; exact ⟨rfl, rfl⟩) rfl ⟨by omega, by decide⟩ ⟨by omega, by omega⟩ rfl (Nat.le_of_ble_eq_true rfl) (fun v1 h2 hq3 => ?_)
  obtain ⟨rfl, rfl⟩ := hq3
  dsimp only [Option.toList, List.cons_append, List.nil_append]
  refine aw_if_eq (pc' := 9) (tgt := 13) eX7_clause_6 rfl (by decide) (fun c_6 => ?_) (fun c_6 => ?_)
  · refine aw_aload_n (pc' := 14) eX7_clause_13 rfl rfl trivial ?_
    refine aw_Mint (pc' := 17) (kf := 11) hM eX7_clause_14 rfl (by decide) q800 ?_
    refine aw_iconst (pc' := 18) (v := 1) eX7_clause_17 rfl (by decide) ?_
    refine aw_iadd (pc' := 19) eX7_clause_18 rfl ?_
    refine aw_aload_n (pc' := 20) eX7_clause_19 rfl rfl trivial ?_
    refine aw_Mint (pc' := 23) (kf := 10) hM eX7_clause_20 rfl (by decide) q799 ?_
    refine aw_icmp_ge (pc' := 26) (tgt := 46) eX7_clause_23 rfl (by decide) (fun c_23 => ?_) (fun c_23 => ?_)
    · refine aw_iconst (pc' := 47) (v := 0) eX7_clause_46 rfl (by decide) ?_
      refine aw_istore_n (pc' := 48) eX7_clause_47 rfl (by decide) ?_
      dsimp only [zst, zst2, zcut]
      have g6 : pAt (U.1 7) n c.1 114 = false := by (have z := c_6; (try simp only [zb_eq0, Bool.not_eq_false, Bool.not_eq_true, decide_eq_true_eq, decide_eq_false_iff_not, Decidable.not_not] at z); exact z)
      have e23 : ¬ c.1.1 + 1 < n := by
        have z := c_23
        rw [show (mp (wk (sr U c.2.1 c.2.2) k) c.1).2.1 11 + 1 = nI (c.1.1 + 1) from nI_1 _, show (mp (wk (sr U c.2.1 c.2.2) k) c.1).2.1 10 = nI n from hn.1] at z
        have := ge_nI (by omega) (by omega) z
        omega
      have ew : pWh (U.1 7) n c.1 = 0 := by rw [pWh, if_neg (by rw [g6]; decide), if_neg (fun z => e23 z.1)]
      refine aw_iconst (pc' := 49) (v := 0) eX7_clause_48 rfl (by decide) ?_
      refine aw_istore_n (pc' := 50) eX7_clause_49 rfl (by decide) ?_
      dsimp only [zst, zst2, zcut]
      rw [pCl, ew] at hQ
      refine cl_words hn (w := 0) (k := k) (c := c) (by omega) _ (by omega) 5 0 0 c.1 _ (by omega) rfl hp hM (fun h' m s y' => ?_)
      exact cl_tail hn (c := (pWl (U.1 7) n (U.1 10) 0 5 0 c.1, c.2)) (w := 0) (by omega) (pWl_le 5 0 _ hp) m _ _ hd (fun h2 k2 m2 s2 => hQ h2 k2 m2 (s.tr s2))
    · have e23 : c.1.1 + 1 < n := by
        have z := c_23
        rw [show (mp (wk (sr U c.2.1 c.2.2) k) c.1).2.1 11 + 1 = nI (c.1.1 + 1) from nI_1 _, show (mp (wk (sr U c.2.1 c.2.2) k) c.1).2.1 10 = nI n from hn.1] at z
        exact nge_nI (by omega) (by omega) z
      have hx11 : ((mp (wk (sr U c.2.1 c.2.2) k) c.1).2.1 11 + 1).toNatClampNeg = c.1.1 + 1 := by rw [show (mp (wk (sr U c.2.1 c.2.2) k) c.1).2.1 11 + 1 = nI (c.1.1 + 1) from nI_1 _]; exact nI_clamp (by omega)
      refine aw_aload_n (pc' := 27) eX7_clause_26 rfl rfl trivial ?_
      refine aw_Mref (pc' := 30) (kf := 9) 7 hM eX7_clause_27 rfl (by decide) rfl q798 ?_
      refine aw_aload_n (pc' := 31) eX7_clause_30 rfl rfl trivial ?_
      refine aw_Mint (pc' := 34) (kf := 11) hM eX7_clause_31 rfl (by decide) q800 ?_
      refine aw_iconst (pc' := 35) (v := 1) eX7_clause_34 rfl (by decide) ?_
      refine aw_iadd (pc' := 36) eX7_clause_35 rfl ?_
      refine aw_MaldC (pc' := 37) 7 _ hM eX7_clause_36 rfl (by decide) (show vp_in _ 100 by rw [show (mp (wk (sr U c.2.1 c.2.2) k) c.1).2.1 11 + 1 = nI (c.1.1 + 1) from nI_1 _]; exact vp_in_nI (by omega) (by omega)) rfl ?_
      refine aw_bipush (pc' := 39) (v := 119) eX7_clause_37 rfl (by decide) ?_
      refine aw_icmp_ne (pc' := 42) (tgt := 46) eX7_clause_39 rfl (by decide) (fun c_39 => ?_) (fun c_39 => ?_)
      · refine aw_iconst (pc' := 47) (v := 0) eX7_clause_46 rfl (by decide) ?_
        refine aw_istore_n (pc' := 48) eX7_clause_47 rfl (by decide) ?_
        dsimp only [zst, zst2, zcut]
        have g6 : pAt (U.1 7) n c.1 114 = false := by (have z := c_6; (try simp only [zb_eq0, Bool.not_eq_false, Bool.not_eq_true, decide_eq_true_eq, decide_eq_false_iff_not, Decidable.not_not] at z); exact z)
        rw [hx11] at c_39
        have g39 : ¬ U.1 7 (c.1.1 + 1) = 119 := by first | exact c_39 | exact Decidable.not_not.mp c_39
        have ew : pWh (U.1 7) n c.1 = 0 := by rw [pWh, if_neg (by rw [g6]; decide), if_neg (fun z => g39 z.2)]
        refine aw_iconst (pc' := 49) (v := 0) eX7_clause_48 rfl (by decide) ?_
        refine aw_istore_n (pc' := 50) eX7_clause_49 rfl (by decide) ?_
        dsimp only [zst, zst2, zcut]
        rw [pCl, ew] at hQ
        refine cl_words hn (w := 0) (k := k) (c := c) (by omega) _ (by omega) 5 0 0 c.1 _ (by omega) rfl hp hM (fun h' m s y' => ?_)
        exact cl_tail hn (c := (pWl (U.1 7) n (U.1 10) 0 5 0 c.1, c.2)) (w := 0) (by omega) (pWl_le 5 0 _ hp) m _ _ hd (fun h2 k2 m2 s2 => hQ h2 k2 m2 (s.tr s2))
      · refine aw_iconst (pc' := 43) (v := 1) eX7_clause_42 rfl (by decide) ?_
        refine aw_goto eX7_clause_43 (by decide) (tgt := 47) ?_
        refine aw_istore_n (pc' := 48) eX7_clause_47 rfl (by decide) ?_
        dsimp only [zst, zst2, zcut]
        have g6 : pAt (U.1 7) n c.1 114 = false := by (have z := c_6; (try simp only [zb_eq0, Bool.not_eq_false, Bool.not_eq_true, decide_eq_true_eq, decide_eq_false_iff_not, Decidable.not_not] at z); exact z)
        rw [hx11] at c_39
        have g39 : U.1 7 (c.1.1 + 1) = 119 := by first | exact c_39 | exact Decidable.not_not.mp c_39
        have ew : pWh (U.1 7) n c.1 = 1 := by rw [pWh, if_neg (by rw [g6]; decide), if_pos ⟨e23, g39⟩]
        refine aw_iconst (pc' := 49) (v := 0) eX7_clause_48 rfl (by decide) ?_
        refine aw_istore_n (pc' := 50) eX7_clause_49 rfl (by decide) ?_
        dsimp only [zst, zst2, zcut]
        rw [pCl, ew] at hQ
        refine cl_words hn (w := 1) (k := k) (c := c) (by omega) _ (by omega) 5 0 0 c.1 _ (by omega) rfl hp hM (fun h' m s y' => ?_)
        exact cl_tail hn (c := (pWl (U.1 7) n (U.1 10) 1 5 0 c.1, c.2)) (w := 1) (by omega) (pWl_le 5 0 _ hp) m _ _ hd (fun h2 k2 m2 s2 => hQ h2 k2 m2 (s.tr s2))
  · refine aw_iconst (pc' := 10) (v := 2) eX7_clause_9 rfl (by decide) ?_
    refine aw_goto eX7_clause_10 (by decide) (tgt := 47) ?_
    refine aw_istore_n (pc' := 48) eX7_clause_47 rfl (by decide) ?_
    dsimp only [zst, zst2, zcut]
    have g6 : pAt (U.1 7) n c.1 114 = true := by (have z := c_6; (try simp only [zb_eq0, Bool.not_eq_false, Bool.not_eq_true, decide_eq_true_eq, decide_eq_false_iff_not, Decidable.not_not] at z); exact z)
    have ew : pWh (U.1 7) n c.1 = 2 := if_pos g6
    refine aw_iconst (pc' := 49) (v := 0) eX7_clause_48 rfl (by decide) ?_
    refine aw_istore_n (pc' := 50) eX7_clause_49 rfl (by decide) ?_
    dsimp only [zst, zst2, zcut]
    rw [pCl, ew] at hQ
    refine cl_words hn (w := 2) (k := k) (c := c) (by omega) _ (by omega) 5 0 0 c.1 _ (by omega) rfl hp hM (fun h' m s y' => ?_)
    exact cl_tail hn (c := (pWl (U.1 7) n (U.1 10) 2 5 0 c.1, c.2)) (w := 2) (by omega) (pWl_le 5 0 _ hp) m _ _ hd (fun h2 k2 m2 s2 => hQ h2 k2 m2 (s.tr s2))
end M10
end
section
/-! the model's parser: a whole text, read for a teller *and* charted -/
section M11
variable {l : Launch} {G : GT} {u : Nat} {U : MS} {d n : Nat} {h : Hp} {Q : Option Value → Hp → Prop}
theorem nI_all (x : Int32) : ∃ k, x = nI k := ⟨x.toBitVec.toNat, by
  apply Int32.toBitVec_inj.mp
  show x.toBitVec = (Int32.ofNat x.toBitVec.toNat).toBitVec
  simp [Int32.ofNat]⟩
def pRl (R : Nat → Int32) (n : Nat) (L N W : Nat → Int32) : Nat → CS → CS
  | 0, c => c
  | j + 1, c => if pAt R n c.1 59 = true then pRl R n L N W j (pCl R n L N W ((c.1.1 + 1, c.1.2), c.2)) else c
def pRA (R : Nat → Int32) (n : Nat) (L N W : Nat → Int32) : CS := pRl R n L N W 9 (pCl R n L N W ((0, true), N 3, 30))
def pGood (n : Nat) (c : CS) : Bool := c.1.2 && decide (c.1.1 = n)
theorem pRl_le {R : Nat → Int32} {n : Nat} {L N W : Nat → Int32} : ∀ (j : Nat) (c : CS), c.1.1 ≤ n → (pRl R n L N W j c).1.1 ≤ n
  | 0, _, h => h
  | j + 1, c, h => by
    unfold pRl
    split
    · rename_i z
      have := pAt_lt z
      exact pRl_le j _ (pCl_le (by show c.1.1 + 1 ≤ n; omega))
    · exact h
theorem pRA_le {R : Nat → Int32} {n : Nat} {L N W : Nat → Int32} : (pRA R n L N W).1.1 ≤ n := pRl_le 9 _ (pCl_le (Nat.zero_le n))
theorem start_eq {U : MS} {k : Nat} (hk : U.2.1 13 = nI k) (s : Int32) : msc (msc (msc (msc U 11 0) 12 1) 14 s) 15 30 = mp (wk (sr U s 30) k) (0, true) := by
  unfold mp wk sr msc
  congr 2
  funext j
  by_cases h1 : j = 11
  · subst h1; rfl
  · by_cases h2 : j = 12
    · subst h2; rfl
    · by_cases h3 : j = 13
      · subst h3; simp; exact hk
      · simp [h1, h2, h3]

abbrev mX7_readAll : MT := (RX7, cX7_readAll, 2, (some .boolean), false)
theorem eX7_readAll_0 : decode mX7_readAll.2.1 0 = .ok (.aload_n 0, 1) := by decide +kernel
theorem eX7_readAll_1 : decode mX7_readAll.2.1 1 = .ok (.iconst 0, 1) := by decide +kernel
theorem eX7_readAll_2 : decode mX7_readAll.2.1 2 = .ok (.putfield 130, 3) := by decide +kernel
theorem eX7_readAll_5 : decode mX7_readAll.2.1 5 = .ok (.aload_n 0, 1) := by decide +kernel
theorem eX7_readAll_6 : decode mX7_readAll.2.1 6 = .ok (.iconst 1, 1) := by decide +kernel
theorem eX7_readAll_7 : decode mX7_readAll.2.1 7 = .ok (.putfield 127, 3) := by decide +kernel
theorem eX7_readAll_10 : decode mX7_readAll.2.1 10 = .ok (.aload_n 0, 1) := by decide +kernel
theorem eX7_readAll_11 : decode mX7_readAll.2.1 11 = .ok (.aload_n 0, 1) := by decide +kernel
theorem eX7_readAll_12 : decode mX7_readAll.2.1 12 = .ok (.getfield 37, 3) := by decide +kernel
theorem eX7_readAll_15 : decode mX7_readAll.2.1 15 = .ok (.iconst 3, 1) := by decide +kernel
theorem eX7_readAll_16 : decode mX7_readAll.2.1 16 = .ok (.iaload, 1) := by decide +kernel
theorem eX7_readAll_17 : decode mX7_readAll.2.1 17 = .ok (.putfield 168, 3) := by decide +kernel
theorem eX7_readAll_20 : decode mX7_readAll.2.1 20 = .ok (.aload_n 0, 1) := by decide +kernel
theorem eX7_readAll_21 : decode mX7_readAll.2.1 21 = .ok (.bipush 30, 2) := by decide +kernel
theorem eX7_readAll_23 : decode mX7_readAll.2.1 23 = .ok (.putfield 165, 3) := by decide +kernel
theorem eX7_readAll_26 : decode mX7_readAll.2.1 26 = .ok (.iconst 1, 1) := by decide +kernel
theorem eX7_readAll_27 : decode mX7_readAll.2.1 27 = .ok (.istore_n 1, 1) := by decide +kernel
theorem eX7_readAll_28 : decode mX7_readAll.2.1 28 = .ok (.aload_n 0, 1) := by decide +kernel
theorem eX7_readAll_29 : decode mX7_readAll.2.1 29 = .ok (.invokevirtual 171, 3) := by decide +kernel
theorem eX7_readAll_32 : decode mX7_readAll.2.1 32 = .ok (.iload_n 1, 1) := by decide +kernel
theorem eX7_readAll_33 : decode mX7_readAll.2.1 33 = .ok (.bipush 10, 2) := by decide +kernel
theorem eX7_readAll_35 : decode mX7_readAll.2.1 35 = .ok (.if_icmp .ge 32, 3) := by decide +kernel
theorem eX7_readAll_38 : decode mX7_readAll.2.1 38 = .ok (.aload_n 0, 1) := by decide +kernel
theorem eX7_readAll_39 : decode mX7_readAll.2.1 39 = .ok (.bipush 59, 2) := by decide +kernel
theorem eX7_readAll_41 : decode mX7_readAll.2.1 41 = .ok (.invokevirtual 136, 3) := by decide +kernel
theorem eX7_readAll_44 : decode mX7_readAll.2.1 44 = .ok (.ifCond .eq 23, 3) := by decide +kernel
theorem eX7_readAll_47 : decode mX7_readAll.2.1 47 = .ok (.aload_n 0, 1) := by decide +kernel
theorem eX7_readAll_48 : decode mX7_readAll.2.1 48 = .ok (.dup, 1) := by decide +kernel
theorem eX7_readAll_49 : decode mX7_readAll.2.1 49 = .ok (.getfield 130, 3) := by decide +kernel
theorem eX7_readAll_52 : decode mX7_readAll.2.1 52 = .ok (.iconst 1, 1) := by decide +kernel
theorem eX7_readAll_53 : decode mX7_readAll.2.1 53 = .ok (.iadd, 1) := by decide +kernel
theorem eX7_readAll_54 : decode mX7_readAll.2.1 54 = .ok (.putfield 130, 3) := by decide +kernel
theorem eX7_readAll_57 : decode mX7_readAll.2.1 57 = .ok (.aload_n 0, 1) := by decide +kernel
theorem eX7_readAll_58 : decode mX7_readAll.2.1 58 = .ok (.invokevirtual 171, 3) := by decide +kernel
theorem eX7_readAll_61 : decode mX7_readAll.2.1 61 = .ok (.iinc 1 1, 3) := by decide +kernel
theorem eX7_readAll_64 : decode mX7_readAll.2.1 64 = .ok (.goto (-32), 3) := by decide +kernel
theorem eX7_readAll_67 : decode mX7_readAll.2.1 67 = .ok (.aload_n 0, 1) := by decide +kernel
theorem eX7_readAll_68 : decode mX7_readAll.2.1 68 = .ok (.getfield 127, 3) := by decide +kernel
theorem eX7_readAll_71 : decode mX7_readAll.2.1 71 = .ok (.ifCond .eq 18, 3) := by decide +kernel
theorem eX7_readAll_74 : decode mX7_readAll.2.1 74 = .ok (.aload_n 0, 1) := by decide +kernel
theorem eX7_readAll_75 : decode mX7_readAll.2.1 75 = .ok (.getfield 130, 3) := by decide +kernel
theorem eX7_readAll_78 : decode mX7_readAll.2.1 78 = .ok (.aload_n 0, 1) := by decide +kernel
theorem eX7_readAll_79 : decode mX7_readAll.2.1 79 = .ok (.getfield 133, 3) := by decide +kernel
theorem eX7_readAll_82 : decode mX7_readAll.2.1 82 = .ok (.if_icmp .ne 7, 3) := by decide +kernel
theorem eX7_readAll_85 : decode mX7_readAll.2.1 85 = .ok (.iconst 1, 1) := by decide +kernel
theorem eX7_readAll_86 : decode mX7_readAll.2.1 86 = .ok (.goto 4, 3) := by decide +kernel
theorem eX7_readAll_89 : decode mX7_readAll.2.1 89 = .ok (.iconst 0, 1) := by decide +kernel
theorem eX7_readAll_90 : decode mX7_readAll.2.1 90 = .ok (.ireturn, 1) := by decide +kernel
theorem lp_X7_readAll (hn : pOk U n) (hd : 19 ≤ d) : ∀ (j : Nat) (c : CS) (k : Nat) (h : Hp) (i : Nat) (y : Int32), i + j = 10 → y = nI i → c.1.1 ≤ n → MAt h u (mp (wk (sr U c.2.1 c.2.2) k) c.1) → (∀ h' k', MAt h' u (mp (wk (sr U (pRl (U.1 7) n (U.1 9) (U.1 8) (U.1 10) j c).2.1 (pRl (U.1 7) n (U.1 9) (U.1 8) (U.1 10) j c).2.2) k') (pRl (U.1 7) n (U.1 9) (U.1 8) (U.1 10) j c).1) → Same u 19 h h' → ∀ y', AW l G mX7_readAll d 0 0 Q 0 0 h' [some (.ref u), some (.int y')] [] 67) → AW l G mX7_readAll d 0 0 Q 0 0 h [some (.ref u), some (.int y)] [] 32 := by
  have n100 := hn.2
  intro j
  induction j with
  | zero =>
    intro c k h i y hij hy hp hM hQ
    subst hy
    have i5 : i = 10 := by omega
    subst i5
    refine aw_iload_n (pc' := 33) eX7_readAll_32 rfl rfl ?_
    refine aw_bipush (pc' := 35) (v := 10) eX7_readAll_33 rfl (by decide) ?_
    refine aw_icmp_ge (pc' := 38) (tgt := 67) eX7_readAll_35 rfl (by decide) (fun c_35 => ?_) (fun c_35 => ?_)
    · exact hQ _ k hM Same.rf _
    · exact absurd (by decide) c_35
  | succ j ih =>
    intro c k h i y hij hy hp hM hQ
    subst hy
    refine aw_iload_n (pc' := 33) eX7_readAll_32 rfl rfl ?_
    refine aw_bipush (pc' := 35) (v := 10) eX7_readAll_33 rfl (by decide) ?_
    refine aw_icmp_ge (pc' := 38) (tgt := 67) eX7_readAll_35 rfl (by decide) (fun c_35 => ?_) (fun c_35 => ?_)
    · exact absurd (ge_nI (a := i) (b := 10) (by omega) (by omega) c_35) (by omega)
    · refine aw_aload_n (pc' := 39) eX7_readAll_38 rfl rfl trivial ?_
      refine aw_bipush (pc' := 41) (v := 59) eX7_readAll_39 rfl (by decide) ?_
      refine aw_callv (pc' := 44) (nn := 1) (c_X7_isAt (d := d - 1) hM (show pOk (wk (sr U c.2.1 c.2.2) k) n from hn) hp _ (by omega)) eX7_readAll_41 rfl ⟨q921, q924, q62⟩ q923 q27 ⟨rfl, by decide +kernel, by decide +kernel, by decide +kernel⟩ rfl (by rw [hM.2.1]; exact ⟨rfl, rfl⟩) rfl ⟨by omega, by decide⟩ ⟨by omega, by omega⟩ rfl (Nat.le_of_ble_eq_true rfl) (fun v1 h2 hq3 => ?_)
      obtain ⟨rfl, rfl⟩ := hq3
      dsimp only [Option.toList, List.cons_append, List.nil_append]
      refine aw_if_eq (pc' := 47) (tgt := 67) eX7_readAll_44 rfl (by decide) (fun c_44 => ?_) (fun c_44 => ?_)
      · have g41 : pAt (U.1 7) n c.1 59 = false := by (have z := c_44; (try simp only [zb_eq0, Bool.not_eq_false, Bool.not_eq_true, decide_eq_true_eq, decide_eq_false_iff_not, Decidable.not_not] at z); exact z)
        have e : pRl (U.1 7) n (U.1 9) (U.1 8) (U.1 10) (j + 1) c = c := by rw [pRl]; exact if_neg (by rw [g41]; decide)
        rw [e] at hQ
        exact hQ _ k hM Same.rf _
      · have g41 : pAt (U.1 7) n c.1 59 = true := by (have z := c_44; (try simp only [zb_eq0, Bool.not_eq_false, Bool.not_eq_true, decide_eq_true_eq, decide_eq_false_iff_not, Decidable.not_not] at z); exact z)
        have b9 := pAt_lt g41
        refine aw_aload_n (pc' := 48) eX7_readAll_47 rfl rfl trivial ?_
        refine aw_dup (pc' := 49) eX7_readAll_48 rfl rfl ?_
        refine aw_Mint (pc' := 52) (kf := 11) hM eX7_readAll_49 rfl (by decide) q800 ?_
        refine aw_iconst (pc' := 53) (v := 1) eX7_readAll_52 rfl (by decide) ?_
        refine aw_iadd (pc' := 54) eX7_readAll_53 rfl ?_
        refine aw_Mput (pc' := 57) 11 hM eX7_readAll_54 rfl (by decide) (fun z => absurd z (by decide)) q800 (fun h6 hM4 hs5 => ?_)
        have hMb := hM4
        rw [show msc (mp (wk (sr U c.2.1 c.2.2) k) c.1) 11 ((mp (wk (sr U c.2.1 c.2.2) k) c.1).2.1 11 + 1) = mp (wk (sr U c.2.1 c.2.2) k) (c.1.1 + 1, c.1.2) from mp_at _ c.1 (c.1.1 + 1) (nI_1 c.1.1)] at hMb
        refine aw_aload_n (pc' := 58) eX7_readAll_57 rfl rfl trivial ?_
        refine aw_callv (pc' := 61) (nn := 0) (c_X7_clause (d := d - 1) hn (k := k) (c := ((c.1.1 + 1, c.1.2), c.2)) (by show c.1.1 + 1 ≤ n; omega) hMb (by omega)) eX7_readAll_58 rfl ⟨q917, q920, q62⟩ q919 q26 ⟨rfl, by decide +kernel, by decide +kernel, by decide +kernel⟩ rfl (by rw [hMb.2.1]; exact ⟨rfl, rfl⟩) rfl ⟨by omega, by decide⟩ ⟨by omega, by omega⟩ rfl (Nat.le_of_ble_eq_true rfl) (fun v9 h10 hq11 => ?_)
        obtain ⟨rfl, k2, hM7, hs8⟩ := hq11
        have hT12 := hs5.tr hs8
        dsimp only [Option.toList, List.cons_append, List.nil_append]
        refine aw_iinc (pc' := 64) eX7_readAll_61 rfl rfl rfl (by decide) ?_
        dsimp only [zst, zst2, zcut]
        refine aw_goto eX7_readAll_64 (by decide) (tgt := 32) ?_
        have e : pRl (U.1 7) n (U.1 9) (U.1 8) (U.1 10) (j + 1) c = pRl (U.1 7) n (U.1 9) (U.1 8) (U.1 10) j (pCl (U.1 7) n (U.1 9) (U.1 8) (U.1 10) ((c.1.1 + 1, c.1.2), c.2)) := by rw [pRl]; exact if_pos g41
        rw [e] at hQ
        exact ih (pCl (U.1 7) n (U.1 9) (U.1 8) (U.1 10) ((c.1.1 + 1, c.1.2), c.2)) k2 _ (i + 1) _ (by omega) (nI_inc i) (pCl_le (by show c.1.1 + 1 ≤ n; omega)) hM7 (fun h' k' m s => hQ h' k' m ((hT12).tr s))
theorem c_X7_readAll (hM : MAt h u U) (hn : pOk U n) (hd : 19 ≤ d) : Ct l G mX7_readAll yX7_readAll d 0 0 [.ref u] h (fun r h' => r = some (.int (zb (pGood n (pRA (U.1 7) n (U.1 9) (U.1 8) (U.1 10))))) ∧ ∃ k', MAt h' u (mp (wk (sr U (pRA (U.1 7) n (U.1 9) (U.1 8) (U.1 10)).2.1 (pRA (U.1 7) n (U.1 9) (U.1 8) (U.1 10)).2.2) k') (pRA (U.1 7) n (U.1 9) (U.1 8) (U.1 10)).1) ∧ Same u 19 h h') := by
  refine ct_of (lv := [some (.ref u), none]) (by decide +kernel) rfl (fun z => by cases z) (fun _ => rfl) (fun _ => Nat.le_of_ble_eq_true rfl) ?_
  have n100 := hn.2
  refine aw_aload_n (pc' := 1) eX7_readAll_0 rfl rfl trivial ?_
  refine aw_iconst (pc' := 2) (v := 0) eX7_readAll_1 rfl (by decide) ?_
  refine aw_Mput (pc' := 5) 11 hM eX7_readAll_2 rfl (by decide) (fun z => absurd z (by decide)) q800 (fun h3 hM1 hs2 => ?_)
  refine aw_aload_n (pc' := 6) eX7_readAll_5 rfl rfl trivial ?_
  refine aw_iconst (pc' := 7) (v := 1) eX7_readAll_6 rfl (by decide) ?_
  refine aw_Mput (pc' := 10) 12 hM1 eX7_readAll_7 rfl (by decide) (fun _ => by decide) q801 (fun h6 hM4 hs5 => ?_)
  have hT7 := hs2.tr hs5
  refine aw_aload_n (pc' := 11) eX7_readAll_10 rfl rfl trivial ?_
  refine aw_aload_n (pc' := 12) eX7_readAll_11 rfl rfl trivial ?_
  refine aw_Mref (pc' := 15) (kf := 16) 8 hM4 eX7_readAll_12 rfl (by decide) rfl q805 ?_
  refine aw_iconst (pc' := 16) (v := 3) eX7_readAll_15 rfl (by decide) ?_
  refine aw_MaldC (pc' := 17) 8 3 hM4 eX7_readAll_16 rfl (by decide) (by unfold vp_in; decide) (by decide) ?_
  refine aw_Mput (pc' := 20) 14 hM4 eX7_readAll_17 rfl (by decide) (fun z => absurd z (by decide)) q803 (fun h10 hM8 hs9 => ?_)
  have hT11 := hT7.tr hs9
  refine aw_aload_n (pc' := 21) eX7_readAll_20 rfl rfl trivial ?_
  refine aw_bipush (pc' := 23) (v := 30) eX7_readAll_21 rfl (by decide) ?_
  refine aw_Mput (pc' := 26) 15 hM8 eX7_readAll_23 rfl (by decide) (fun z => absurd z (by decide)) q804 (fun h14 hM12 hs13 => ?_)
  have hT15 := hT11.tr hs13
  refine aw_iconst (pc' := 27) (v := 1) eX7_readAll_26 rfl (by decide) ?_
  refine aw_istore_n (pc' := 28) eX7_readAll_27 rfl (by decide) ?_
  dsimp only [zst, zst2, zcut]
  obtain ⟨k0, hk0⟩ := nI_all (U.2.1 13)
  have hMb := hM12
  rw [show (msc (msc U 11 0) 12 1).1 = U.1 from rfl] at hMb
  rw [start_eq hk0] at hMb
  refine aw_aload_n (pc' := 29) eX7_readAll_28 rfl rfl trivial ?_
  refine aw_callv (pc' := 32) (nn := 0) (c_X7_clause (d := d - 1) hn (k := k0) (c := ((0, true), U.1 8 3, 30)) (Nat.zero_le n) hMb (by omega)) eX7_readAll_29 rfl ⟨q917, q920, q62⟩ q919 q26 ⟨rfl, by decide +kernel, by decide +kernel, by decide +kernel⟩ rfl (by rw [hMb.2.1]; exact ⟨rfl, rfl⟩) rfl ⟨by omega, by decide⟩ ⟨by omega, by omega⟩ rfl (Nat.le_of_ble_eq_true rfl) (fun v18 h19 hq20 => ?_)
  obtain ⟨rfl, k2, hM16, hs17⟩ := hq20
  have hT21 := hT15.tr hs17
  dsimp only [Option.toList, List.cons_append, List.nil_append]
  refine lp_X7_readAll hn hd 9 _ k2 _ 1 1 (by omega) rfl (pCl_le (Nat.zero_le n)) hM16 (fun h' k' m s9 y' => ?_)
  have s0 := (hT21).tr s9
  clear s9
  refine aw_aload_n (pc' := 68) eX7_readAll_67 rfl rfl trivial ?_
  refine aw_Mint (pc' := 71) (kf := 12) m eX7_readAll_68 rfl (by decide) q801 ?_
  refine aw_if_eq (pc' := 74) (tgt := 89) eX7_readAll_71 rfl (by decide) (fun c_71 => ?_) (fun c_71 => ?_)
  · refine aw_iconst (pc' := 90) (v := 0) eX7_readAll_89 rfl (by decide) ?_
    refine aw_ret (v := some (.int _)) eX7_readAll_90 ⟨rfl, rfl⟩ (by omega) (by omega) rfl ?_
    have g71 : (pRA (U.1 7) n (U.1 9) (U.1 8) (U.1 10)).1.2 = false := by (have z := c_71; (try simp only [show ∀ (V : MS) (p : PP), (mp V p).2.1 12 = zb p.2 from fun _ _ => rfl, zb_eq0, Bool.not_eq_false, Bool.not_eq_true, decide_eq_true_eq, decide_eq_false_iff_not, Decidable.not_not] at z); exact z)
    exact ⟨by simp [pGood, zb, g71], k', m, s0⟩
  · refine aw_aload_n (pc' := 75) eX7_readAll_74 rfl rfl trivial ?_
    refine aw_Mint (pc' := 78) (kf := 11) m eX7_readAll_75 rfl (by decide) q800 ?_
    refine aw_aload_n (pc' := 79) eX7_readAll_78 rfl rfl trivial ?_
    refine aw_Mint (pc' := 82) (kf := 10) m eX7_readAll_79 rfl (by decide) q799 ?_
    refine aw_icmp_ne (pc' := 85) (tgt := 89) eX7_readAll_82 rfl (by decide) (fun c_82 => ?_) (fun c_82 => ?_)
    · refine aw_iconst (pc' := 90) (v := 0) eX7_readAll_89 rfl (by decide) ?_
      refine aw_ret (v := some (.int _)) eX7_readAll_90 ⟨rfl, rfl⟩ (by omega) (by omega) rfl ?_
      have g71 : (pRA (U.1 7) n (U.1 9) (U.1 8) (U.1 10)).1.2 = true := by (have z := c_71; (try simp only [show ∀ (V : MS) (p : PP), (mp V p).2.1 12 = zb p.2 from fun _ _ => rfl, zb_eq0, Bool.not_eq_false, Bool.not_eq_true, decide_eq_true_eq, decide_eq_false_iff_not, Decidable.not_not] at z); exact z)
      have g82 : ¬ (pRA (U.1 7) n (U.1 9) (U.1 8) (U.1 10)).1.1 = n := fun y => absurd (show nI (pRA (U.1 7) n (U.1 9) (U.1 8) (U.1 10)).1.1 = U.2.1 10 from (by rw [y]; exact hn.1.symm)) c_82
      exact ⟨by simp [pGood, zb, g71, g82], k', m, s0⟩
    · refine aw_iconst (pc' := 86) (v := 1) eX7_readAll_85 rfl (by decide) ?_
      refine aw_goto eX7_readAll_86 (by decide) (tgt := 90) ?_
      refine aw_ret (v := some (.int _)) eX7_readAll_90 ⟨rfl, rfl⟩ (by omega) (by omega) rfl ?_
      have g71 : (pRA (U.1 7) n (U.1 9) (U.1 8) (U.1 10)).1.2 = true := by (have z := c_71; (try simp only [show ∀ (V : MS) (p : PP), (mp V p).2.1 12 = zb p.2 from fun _ _ => rfl, zb_eq0, Bool.not_eq_false, Bool.not_eq_true, decide_eq_true_eq, decide_eq_false_iff_not, Decidable.not_not] at z); exact z)
      have g82 : (pRA (U.1 7) n (U.1 9) (U.1 8) (U.1 10)).1.1 = n := (nI_eq (by have := pRA_le (R := U.1 7) (n := n) (L := U.1 9) (N := U.1 8) (W := U.1 10); omega) (by omega)).mp ((show nI (pRA (U.1 7) n (U.1 9) (U.1 8) (U.1 10)).1.1 = U.2.1 10 from c_82).trans hn.1)
      exact ⟨by simp [pGood, zb, g71, g82], k', m, s0⟩
end M11
end
section
/-! the model: what a teller's sea says; what days keep -/
section M12
variable {l : Launch} {G : GT} {u : Nat} {U U' : MS} {d n : Nat} {h : Hp} {Q : Option Value → Hp → Prop} {R R' : Nat → Int32} {L N N' W : Nat → Int32}
/-! of a text of n bytes only those count -/
theorem pAt_ext (hR : ∀ k, k < n → R k = R' k) : pAt R n = pAt R' n := by
  funext p c
  unfold pAt
  by_cases h : p.1 < n
  · rw [hR _ h]
  · simp [h]
theorem pDg_ext (hR : ∀ k, k < n → R k = R' k) : pDg R n = pDg R' n := by
  funext p
  unfold pDg
  by_cases h : p.1 < n
  · rw [hR _ h]
  · simp [h]
theorem pTk_ext (hR : ∀ k, k < n → R k = R' k) : pTk R n = pTk R' n := by
  funext p c
  unfold pTk
  rw [pAt_ext hR]
theorem pNum_ext (hR : ∀ k, k < n → R k = R' k) : pNum R n = pNum R' n := by
  funext p
  unfold pNum
  rw [pDg_ext hR]
  by_cases h1 : pDg R' n p = true
  · rw [if_pos h1, if_pos h1, hR _ (pDg_lt h1)]
    by_cases h2 : pDg R' n (p.1 + 1, p.2) = true
    · rw [if_pos h2, if_pos h2, hR _ (pDg_lt h2)]
    · rw [if_neg h2, if_neg h2]
  · rw [if_neg h1, if_neg h1]
theorem pNm_ext (hR : ∀ k, k < n → R k = R' k) : pNm R n = pNm R' n := by
  funext L p k
  induction k with
  | zero => rfl
  | succ k ih => simp only [pNm, pAt_ext hR, ih]
theorem pNm_6 {L : Nat → Int32} {p : PP} {k : Nat} (h : pNm R n L p k ≠ -1) : ∃ j, j < k ∧ pNm R n L p k = nI j := (pNm_lt h).2
theorem pTest_ext (hR : ∀ k, k < n → R k = R' k) (hN : ∀ k, k < 6 → N k = N' k) : pTest R n L N = pTest R' n L N' := by
  funext p
  unfold pTest pCm
  simp only [pAt_ext hR, pNm_ext hR, pNum_ext hR, pTk_ext hR]
  split
  · rfl
  · rename_i z
    obtain ⟨j, h1, h2⟩ := pNm_6 z
    rw [h2, nI_clamp (by omega), hN j h1]
theorem pX_ext (hR : ∀ k, k < n → R k = R' k) (hN : ∀ k, k < 6 → N k = N' k) : ∀ f, pX R n L N f = pX R' n L N' f := by
  intro f
  induction f with
  | zero => funext t k b p; simp only [pX]
  | succ f ih =>
    funext t k b p
    match t with
    | 0 => simp only [pX, ih, pAt_ext hR, pTk_ext hR, pTest_ext hR hN]
    | 1 => simp only [pX, ih]
    | 2 => simp only [pX, ih, pAt_ext hR]
    | 3 => simp only [pX, ih]
    | t + 4 => simp only [pX, ih, pAt_ext hR]
theorem pTl_ext (hR : ∀ k, k < n → R k = R' k) (hN : ∀ k, k < 6 → N k = N' k) : pTl R n L N = pTl R' n L N' := by
  funext w c
  unfold pTl
  simp only [pNum_ext hR, pTk_ext hR, pX_ext hR hN]
theorem pWl_ext (hR : ∀ k, k < n → R k = R' k) : pWl R n W = pWl R' n W := by
  funext w j k p
  induction j generalizing k p with
  | zero => rfl
  | succ j ih => simp only [pWl, ih, pTk_ext hR]
theorem pWh_ext (hR : ∀ k, k < n → R k = R' k) : pWh R n = pWh R' n := by
  funext p
  unfold pWh
  rw [pAt_ext hR]
  by_cases h : p.1 + 1 < n
  · rw [hR _ h]
  · simp [h]
theorem pCl_ext (hR : ∀ k, k < n → R k = R' k) (hN : ∀ k, k < 6 → N k = N' k) : pCl R n L N W = pCl R' n L N' W := by
  funext c
  unfold pCl
  rw [pTl_ext hR hN, pWl_ext hR, pWh_ext hR]
theorem pRA_ext (hR : ∀ k, k < n → R k = R' k) (hN : ∀ k, k < 6 → N k = N' k) : pRA R n L N W = pRA R' n L N' W := by
  have e : ∀ j c, pRl R n L N W j c = pRl R' n L N' W j c := by
    intro j
    induction j with
    | zero => intro c; rfl
    | succ j ih => intro c; simp only [pRl, ih, pAt_ext hR, pCl_ext hR hN]
  unfold pRA
  rw [e, pCl_ext hR hN, hN 3 (by omega)]
/-! what calls that only look on keep of the model -/
def msv (n j : Nat) : Prop := ¬ (j = 1 ∨ j = 7 ∨ j = 8 ∨ (1 ≤ n ∧ j = 2) ∨ (2 ≤ n ∧ j = 11))
def MK (n : Nat) (g : Nat → Int32) (U U' : MS) : Prop := U'.1 1 = g ∧ (∀ j, msv n j → U'.1 j = U.1 j) ∧ (∀ k, k < 10 ∨ 15 < k → U'.2.1 k = U.2.1 k) ∧ U'.2.2 = U.2.2
theorem MK.rf {U : MS} : MK n (U.1 1) U U := ⟨rfl, fun _ _ => rfl, fun _ _ => rfl, rfl⟩
theorem MK.tr {n : Nat} {g g' : Nat → Int32} {U U1 U2 : MS} (a : MK n g U U1) (b : MK n g' U1 U2) : MK n g' U U2 :=
  ⟨b.1, fun j hj => (b.2.1 j hj).trans (a.2.1 j hj), fun k hk => (b.2.2.1 k hk).trans (a.2.2.1 k hk), b.2.2.2.trans a.2.2.2⟩
theorem MK.le {n n' : Nat} {g : Nat → Int32} {U U1 : MS} (a : MK n g U U1) (hn : n ≤ n') : MK n' g U U1 :=
  ⟨a.1, fun j hj => a.2.1 j (by unfold msv at hj ⊢; omega), a.2.2⟩
theorem MK.up {n k : Nat} {x : Int32} {g : Nat → Int32} {U U1 : MS} (a : MK n g U U1) : MK n (upd g k x) U (mup U1 1 k x) :=
  ⟨by rw [mup1, a.1], fun j hj => by
    show (if j = 1 then _ else U1.1 j) = _
    rw [if_neg (by unfold msv at hj; omega)]
    exact a.2.1 j hj, a.2.2⟩
theorem MK.ar {n : Nat} {g : Nat → Int32} {U U1 : MS} (a : MK n g U U1) {j : Nat} (hj : msv n j) : U1.1 j = U.1 j := a.2.1 j hj
theorem MK.gx {g g' : Nat → Int32} {U U1 : MS} {n : Nat} (a : MK n g U U1) (hM : MAt h u U1) (he : ∀ i, i < 123 → g i = g' i) : ∃ U2, MAt h u U2 ∧ MK n g' U U2 := by
  refine ⟨mg U1 g', ?_, ?_⟩
  · have z : MAt h u (mg U1 (U1.1 1)) := by rw [mg_id]; exact hM
    refine z.gx fun i hi => ?_
    rw [a.1]; exact he i hi
  · refine ⟨mg_1 _ _, fun j hj => ?_, a.2.2⟩
    rw [mg_ne (by unfold msv at hj; omega)]
    exact a.2.1 j hj
/-- what the sea adds to and its room, as the model reads it anew each time -/
def jr (a b : Int32) : Int32 := a - a / b * b
def mNm (g : Nat → Int32) (i : Nat) : Nat → Int32 := fun j => if j = 0 then nI i else if j = 1 then g (10 * i) else if j = 2 then g (10 * i + 1) else if j = 3 then g (10 * i + 2) else if j = 4 then jr (g (10 * i + 4)) 10 else jr (g 67) 10
def mRd (U : MS) (g : Nat → Int32) (i : Nat) : Int32 × Int32 := if g 68 = 0 then (g (10 * i + 2), 30) else (pRA (fun k => U.1 5 (100 * (g 68 - 1).toNatClampNeg + k)) (U.1 6 (g 68 - 1).toNatClampNeg).toNatClampNeg (U.1 9) (mNm g i) (U.1 10)).2
theorem MAt.nm {g : Nat → Int32} {i : Nat} {a0 a1 a2 a3 a4 a5 : Int32} (hM : MAt h u (mup (mup (mup (mup (mup (mup U 8 0 a0) 8 1 a1) 8 2 a2) 8 3 a3) 8 4 a4) 8 5 a5)) (h0 : a0 = nI i) (h1 : a1 = g (10 * i)) (h2 : a2 = g (10 * i + 1)) (h3 : a3 = g (10 * i + 2)) (h4 : a4 = jr (g (10 * i + 4)) 10) (h5 : a5 = jr (g 67) 10) : MAt h u (mset U 8 (mNm g i)) := by
  subst h0 h1 h2 h3 h4 h5
  simp only [mup_mset, mset_set, mset_eq] at hM
  refine hM.gs fun q hq => ?_
  rcases (show q = 0 ∨ q = 1 ∨ q = 2 ∨ q = 3 ∨ q = 4 ∨ q = 5 from by have : q < 6 := hq; omega) with rfl | rfl | rfl | rfl | rfl | rfl <;> simp [upd, mNm]
theorem mRd_k {n : Nat} {g g' : Nat → Int32} {U U1 : MS} (a : MK n g' U U1) (i : Nat) : mRd U1 g i = mRd U g i := by
  unfold mRd
  rw [a.2.1 5 (by unfold msv; omega), a.2.1 6 (by unfold msv; omega), a.2.1 9 (by unfold msv; omega), a.2.1 10 (by unfold msv; omega)]
/-- the charted texts' sizes -/
def mZ (U : MS) : Prop := ∀ r, r < 6 → ∃ n, n ≤ 100 ∧ U.1 6 r = nI n
theorem mZ.k {n : Nat} {g : Nat → Int32} {U U1 : MS} (hz : mZ U) (a : MK n g U U1) : mZ U1 := by
  unfold mZ
  rw [a.2.1 6 (by unfold msv; omega)]
  exact hz
/-- the row: m tellers, day t, a charted text or none -/
def gOk (g : Nat → Int32) (m t : Nat) : Prop := g 60 = nI m ∧ m ≤ 6 ∧ g 67 = nI t ∧ t ≤ 1073741824 ∧ ∃ q, q ≤ 6 ∧ g 68 = nI q
theorem c_one (hM : MAt h u U) (i c : Nat) (hi : 10 * i + c < 123) (hd : 0 ≤ d) : Ct l G mX7_one yX7_one d 0 0 [.ref u, .int (nI i), .int (nI c)] h (fun r h' => r = some (.int (U.1 1 (10 * i + c))) ∧ h' = h) := by
  have z := c_X7_one (l := l) (G := G) (d := d) hM (nI i) (nI c) (ix10 hi).2 hd
  rw [show mi U (nI i) (nI c) = U.1 1 (10 * i + c) by rw [mi, (ix10 hi).1]] at z
  exact z
theorem c_isAs (hM : MAt h u U) (i : Nat) (st : Int32) (hi : 10 * i + 3 < 123) (hd : 1 ≤ d) : Ct l G mX7_isAs yX7_isAs d 0 0 [.ref u, .int (nI i), .int st] h (fun r h' => r = some (.int (zb (decide (U.1 1 (10 * i + 3) = st)))) ∧ h' = h) := by
  have z := c_X7_isAs (l := l) (G := G) (d := d) hM (nI i) st (ix10 (c := 3) hi).2 hd
  rw [show mi U (nI i) 3 = U.1 1 (10 * i + 3) by rw [mi]; exact congrArg (U.1 1) (ix10 (c := 3) hi).1] at z
  exact z
theorem c_change (hM : MAt h u U) (i c : Nat) (x : Int32) (hi : 10 * i + c < 123) (hd : 1 ≤ d) : Ct l G mX7_change yX7_change d 0 0 [.ref u, .int (nI i), .int (nI c), .int x] h (fun r h' => r = some (.int (U.1 1 (10 * i + c))) ∧ MAt h' u (mup U 1 (10 * i + c) x) ∧ Same u 19 h h') := by
  have z := c_X7_change (l := l) (G := G) (d := d) hM (nI i) (nI c) x (ix10 hi).2 hd
  rw [show mi U (nI i) (nI c) = U.1 1 (10 * i + c) by rw [mi, (ix10 hi).1], (ix10 hi).1] at z
  exact z
theorem ix100 {r k : Nat} (h : 100 * r + k < 600) : (100 * nI r + nI k).toNatClampNeg = 100 * r + k ∧ vp_in (100 * nI r + nI k) 600 := by
  have e : 100 * nI r + nI k = nI (100 * r + k) := nI_muladd 100 r k
  rw [e]
  exact ⟨nI_clamp (by omega), vp_in_nI h (by omega)⟩

abbrev mX7_readFor : MT := (RX7, cX7_readFor, 4, none, false)
theorem eX7_readFor_0 : decode mX7_readFor.2.1 0 = .ok (.aload_n 0, 1) := by decide +kernel
theorem eX7_readFor_1 : decode mX7_readFor.2.1 1 = .ok (.getfield 37, 3) := by decide +kernel
theorem eX7_readFor_4 : decode mX7_readFor.2.1 4 = .ok (.iconst 0, 1) := by decide +kernel
theorem eX7_readFor_5 : decode mX7_readFor.2.1 5 = .ok (.iload_n 1, 1) := by decide +kernel
theorem eX7_readFor_6 : decode mX7_readFor.2.1 6 = .ok (.iastore, 1) := by decide +kernel
theorem eX7_readFor_7 : decode mX7_readFor.2.1 7 = .ok (.aload_n 0, 1) := by decide +kernel
theorem eX7_readFor_8 : decode mX7_readFor.2.1 8 = .ok (.getfield 37, 3) := by decide +kernel
theorem eX7_readFor_11 : decode mX7_readFor.2.1 11 = .ok (.iconst 1, 1) := by decide +kernel
theorem eX7_readFor_12 : decode mX7_readFor.2.1 12 = .ok (.aload_n 0, 1) := by decide +kernel
theorem eX7_readFor_13 : decode mX7_readFor.2.1 13 = .ok (.iload_n 1, 1) := by decide +kernel
theorem eX7_readFor_14 : decode mX7_readFor.2.1 14 = .ok (.iconst 0, 1) := by decide +kernel
theorem eX7_readFor_15 : decode mX7_readFor.2.1 15 = .ok (.invokevirtual 84, 3) := by decide +kernel
theorem eX7_readFor_18 : decode mX7_readFor.2.1 18 = .ok (.iastore, 1) := by decide +kernel
theorem eX7_readFor_19 : decode mX7_readFor.2.1 19 = .ok (.aload_n 0, 1) := by decide +kernel
theorem eX7_readFor_20 : decode mX7_readFor.2.1 20 = .ok (.getfield 37, 3) := by decide +kernel
theorem eX7_readFor_23 : decode mX7_readFor.2.1 23 = .ok (.iconst 2, 1) := by decide +kernel
theorem eX7_readFor_24 : decode mX7_readFor.2.1 24 = .ok (.aload_n 0, 1) := by decide +kernel
theorem eX7_readFor_25 : decode mX7_readFor.2.1 25 = .ok (.iload_n 1, 1) := by decide +kernel
theorem eX7_readFor_26 : decode mX7_readFor.2.1 26 = .ok (.iconst 1, 1) := by decide +kernel
theorem eX7_readFor_27 : decode mX7_readFor.2.1 27 = .ok (.invokevirtual 84, 3) := by decide +kernel
theorem eX7_readFor_30 : decode mX7_readFor.2.1 30 = .ok (.iastore, 1) := by decide +kernel
theorem eX7_readFor_31 : decode mX7_readFor.2.1 31 = .ok (.aload_n 0, 1) := by decide +kernel
theorem eX7_readFor_32 : decode mX7_readFor.2.1 32 = .ok (.getfield 37, 3) := by decide +kernel
theorem eX7_readFor_35 : decode mX7_readFor.2.1 35 = .ok (.iconst 3, 1) := by decide +kernel
theorem eX7_readFor_36 : decode mX7_readFor.2.1 36 = .ok (.aload_n 0, 1) := by decide +kernel
theorem eX7_readFor_37 : decode mX7_readFor.2.1 37 = .ok (.iload_n 1, 1) := by decide +kernel
theorem eX7_readFor_38 : decode mX7_readFor.2.1 38 = .ok (.iconst 2, 1) := by decide +kernel
theorem eX7_readFor_39 : decode mX7_readFor.2.1 39 = .ok (.invokevirtual 84, 3) := by decide +kernel
theorem eX7_readFor_42 : decode mX7_readFor.2.1 42 = .ok (.iastore, 1) := by decide +kernel
theorem eX7_readFor_43 : decode mX7_readFor.2.1 43 = .ok (.aload_n 0, 1) := by decide +kernel
theorem eX7_readFor_44 : decode mX7_readFor.2.1 44 = .ok (.getfield 37, 3) := by decide +kernel
theorem eX7_readFor_47 : decode mX7_readFor.2.1 47 = .ok (.iconst 4, 1) := by decide +kernel
theorem eX7_readFor_48 : decode mX7_readFor.2.1 48 = .ok (.aload_n 0, 1) := by decide +kernel
theorem eX7_readFor_49 : decode mX7_readFor.2.1 49 = .ok (.iload_n 1, 1) := by decide +kernel
theorem eX7_readFor_50 : decode mX7_readFor.2.1 50 = .ok (.iconst 4, 1) := by decide +kernel
theorem eX7_readFor_51 : decode mX7_readFor.2.1 51 = .ok (.invokevirtual 84, 3) := by decide +kernel
theorem eX7_readFor_54 : decode mX7_readFor.2.1 54 = .ok (.bipush 10, 2) := by decide +kernel
theorem eX7_readFor_56 : decode mX7_readFor.2.1 56 = .ok (.irem, 1) := by decide +kernel
theorem eX7_readFor_57 : decode mX7_readFor.2.1 57 = .ok (.iastore, 1) := by decide +kernel
theorem eX7_readFor_58 : decode mX7_readFor.2.1 58 = .ok (.aload_n 0, 1) := by decide +kernel
theorem eX7_readFor_59 : decode mX7_readFor.2.1 59 = .ok (.getfield 37, 3) := by decide +kernel
theorem eX7_readFor_62 : decode mX7_readFor.2.1 62 = .ok (.iconst 5, 1) := by decide +kernel
theorem eX7_readFor_63 : decode mX7_readFor.2.1 63 = .ok (.aload_n 0, 1) := by decide +kernel
theorem eX7_readFor_64 : decode mX7_readFor.2.1 64 = .ok (.getfield 15, 3) := by decide +kernel
theorem eX7_readFor_67 : decode mX7_readFor.2.1 67 = .ok (.bipush 67, 2) := by decide +kernel
theorem eX7_readFor_69 : decode mX7_readFor.2.1 69 = .ok (.iaload, 1) := by decide +kernel
theorem eX7_readFor_70 : decode mX7_readFor.2.1 70 = .ok (.bipush 10, 2) := by decide +kernel
theorem eX7_readFor_72 : decode mX7_readFor.2.1 72 = .ok (.irem, 1) := by decide +kernel
theorem eX7_readFor_73 : decode mX7_readFor.2.1 73 = .ok (.iastore, 1) := by decide +kernel
theorem eX7_readFor_74 : decode mX7_readFor.2.1 74 = .ok (.aload_n 0, 1) := by decide +kernel
theorem eX7_readFor_75 : decode mX7_readFor.2.1 75 = .ok (.getfield 15, 3) := by decide +kernel
theorem eX7_readFor_78 : decode mX7_readFor.2.1 78 = .ok (.bipush 68, 2) := by decide +kernel
theorem eX7_readFor_80 : decode mX7_readFor.2.1 80 = .ok (.iaload, 1) := by decide +kernel
theorem eX7_readFor_81 : decode mX7_readFor.2.1 81 = .ok (.ifCond .ne 20, 3) := by decide +kernel
theorem eX7_readFor_84 : decode mX7_readFor.2.1 84 = .ok (.aload_n 0, 1) := by decide +kernel
theorem eX7_readFor_85 : decode mX7_readFor.2.1 85 = .ok (.aload_n 0, 1) := by decide +kernel
theorem eX7_readFor_86 : decode mX7_readFor.2.1 86 = .ok (.getfield 37, 3) := by decide +kernel
theorem eX7_readFor_89 : decode mX7_readFor.2.1 89 = .ok (.iconst 3, 1) := by decide +kernel
theorem eX7_readFor_90 : decode mX7_readFor.2.1 90 = .ok (.iaload, 1) := by decide +kernel
theorem eX7_readFor_91 : decode mX7_readFor.2.1 91 = .ok (.putfield 168, 3) := by decide +kernel
theorem eX7_readFor_94 : decode mX7_readFor.2.1 94 = .ok (.aload_n 0, 1) := by decide +kernel
theorem eX7_readFor_95 : decode mX7_readFor.2.1 95 = .ok (.bipush 30, 2) := by decide +kernel
theorem eX7_readFor_97 : decode mX7_readFor.2.1 97 = .ok (.putfield 165, 3) := by decide +kernel
theorem eX7_readFor_100 : decode mX7_readFor.2.1 100 = .ok (.return_, 1) := by decide +kernel
theorem eX7_readFor_101 : decode mX7_readFor.2.1 101 = .ok (.aload_n 0, 1) := by decide +kernel
theorem eX7_readFor_102 : decode mX7_readFor.2.1 102 = .ok (.getfield 15, 3) := by decide +kernel
theorem eX7_readFor_105 : decode mX7_readFor.2.1 105 = .ok (.bipush 68, 2) := by decide +kernel
theorem eX7_readFor_107 : decode mX7_readFor.2.1 107 = .ok (.iaload, 1) := by decide +kernel
theorem eX7_readFor_108 : decode mX7_readFor.2.1 108 = .ok (.iconst 1, 1) := by decide +kernel
theorem eX7_readFor_109 : decode mX7_readFor.2.1 109 = .ok (.isub, 1) := by decide +kernel
theorem eX7_readFor_110 : decode mX7_readFor.2.1 110 = .ok (.istore_n 2, 1) := by decide +kernel
theorem eX7_readFor_111 : decode mX7_readFor.2.1 111 = .ok (.aload_n 0, 1) := by decide +kernel
theorem eX7_readFor_112 : decode mX7_readFor.2.1 112 = .ok (.aload_n 0, 1) := by decide +kernel
theorem eX7_readFor_113 : decode mX7_readFor.2.1 113 = .ok (.getfield 31, 3) := by decide +kernel
theorem eX7_readFor_116 : decode mX7_readFor.2.1 116 = .ok (.iload_n 2, 1) := by decide +kernel
theorem eX7_readFor_117 : decode mX7_readFor.2.1 117 = .ok (.iaload, 1) := by decide +kernel
theorem eX7_readFor_118 : decode mX7_readFor.2.1 118 = .ok (.putfield 133, 3) := by decide +kernel
theorem eX7_readFor_121 : decode mX7_readFor.2.1 121 = .ok (.iconst 0, 1) := by decide +kernel
theorem eX7_readFor_122 : decode mX7_readFor.2.1 122 = .ok (.istore_n 3, 1) := by decide +kernel
theorem eX7_readFor_123 : decode mX7_readFor.2.1 123 = .ok (.iload_n 3, 1) := by decide +kernel
theorem eX7_readFor_124 : decode mX7_readFor.2.1 124 = .ok (.aload_n 0, 1) := by decide +kernel
theorem eX7_readFor_125 : decode mX7_readFor.2.1 125 = .ok (.getfield 133, 3) := by decide +kernel
theorem eX7_readFor_128 : decode mX7_readFor.2.1 128 = .ok (.if_icmp .ge 26, 3) := by decide +kernel
theorem eX7_readFor_131 : decode mX7_readFor.2.1 131 = .ok (.aload_n 0, 1) := by decide +kernel
theorem eX7_readFor_132 : decode mX7_readFor.2.1 132 = .ok (.getfield 34, 3) := by decide +kernel
theorem eX7_readFor_135 : decode mX7_readFor.2.1 135 = .ok (.iload_n 3, 1) := by decide +kernel
theorem eX7_readFor_136 : decode mX7_readFor.2.1 136 = .ok (.aload_n 0, 1) := by decide +kernel
theorem eX7_readFor_137 : decode mX7_readFor.2.1 137 = .ok (.getfield 28, 3) := by decide +kernel
theorem eX7_readFor_140 : decode mX7_readFor.2.1 140 = .ok (.bipush 100, 2) := by decide +kernel
theorem eX7_readFor_142 : decode mX7_readFor.2.1 142 = .ok (.iload_n 2, 1) := by decide +kernel
theorem eX7_readFor_143 : decode mX7_readFor.2.1 143 = .ok (.imul, 1) := by decide +kernel
theorem eX7_readFor_144 : decode mX7_readFor.2.1 144 = .ok (.iload_n 3, 1) := by decide +kernel
theorem eX7_readFor_145 : decode mX7_readFor.2.1 145 = .ok (.iadd, 1) := by decide +kernel
theorem eX7_readFor_146 : decode mX7_readFor.2.1 146 = .ok (.iaload, 1) := by decide +kernel
theorem eX7_readFor_147 : decode mX7_readFor.2.1 147 = .ok (.iastore, 1) := by decide +kernel
theorem eX7_readFor_148 : decode mX7_readFor.2.1 148 = .ok (.iinc 3 1, 3) := by decide +kernel
theorem eX7_readFor_151 : decode mX7_readFor.2.1 151 = .ok (.goto (-28), 3) := by decide +kernel
theorem eX7_readFor_154 : decode mX7_readFor.2.1 154 = .ok (.aload_n 0, 1) := by decide +kernel
theorem eX7_readFor_155 : decode mX7_readFor.2.1 155 = .ok (.invokevirtual 174, 3) := by decide +kernel
theorem eX7_readFor_158 : decode mX7_readFor.2.1 158 = .ok (.pop, 1) := by decide +kernel
theorem eX7_readFor_159 : decode mX7_readFor.2.1 159 = .ok (.return_, 1) := by decide +kernel
theorem lp_X7_readFor {V : MS} {r : Nat} (hr : r < 6) (hv : V.2.1 10 = nI n) (hn : n ≤ 100) {o1 : Option Value} {h0 : Hp} (hQ : ∀ h' y', MAt h' u (mset V 7 (fun q => if q < n then V.1 5 (100 * r + q) else V.1 7 q)) → Same u 19 h0 h' → AW l G mX7_readFor d 0 0 Q 0 0 h' [some (.ref u), o1, some (.int (nI r)), some (.int y')] [] 154) : ∀ (k j : Nat) (y : Int32) (h : Hp), k = n - j → j ≤ n → y = nI j → MAt h u (mset V 7 (fun q => if q < j then V.1 5 (100 * r + q) else V.1 7 q)) → Same u 19 h0 h → AW l G mX7_readFor d 0 0 Q 0 0 h [some (.ref u), o1, some (.int (nI r)), some (.int y)] [] 123 := by
  intro k
  induction k using Nat.strongRecOn with
  | _ k ih =>
    intro j y h hk hj hy hM hs
    subst hy
    refine aw_iload_n (pc' := 124) eX7_readFor_123 rfl rfl ?_
    refine aw_aload_n (pc' := 125) eX7_readFor_124 rfl rfl trivial ?_
    refine aw_Mint (pc' := 128) (kf := 10) hM eX7_readFor_125 rfl (by decide) q799 ?_
    refine aw_icmp_ge (pc' := 131) (tgt := 154) eX7_readFor_128 rfl (by decide) (fun c_128 => ?_) (fun c_128 => ?_)
    · have hx : V.2.1 10 = nI n := hv
      rw [show (mset V 7 (fun q => if q < j then V.1 5 (100 * r + q) else V.1 7 q)).2.1 10 = nI n from hv] at c_128
      have c9 := ge_nI (by omega) (by omega) c_128
      obtain rfl : j = n := by omega
      exact hQ _ _ hM hs
    · rw [show (mset V 7 (fun q => if q < j then V.1 5 (100 * r + q) else V.1 7 q)).2.1 10 = nI n from hv] at c_128
      have c9 := nge_nI (by omega) (by omega) c_128
      refine aw_aload_n (pc' := 132) eX7_readFor_131 rfl rfl trivial ?_
      refine aw_Mref (pc' := 135) (kf := 9) 7 hM eX7_readFor_132 rfl (by decide) rfl q798 ?_
      refine aw_iload_n (pc' := 136) eX7_readFor_135 rfl rfl ?_
      refine aw_aload_n (pc' := 137) eX7_readFor_136 rfl rfl trivial ?_
      refine aw_Mref (pc' := 140) (kf := 6) 5 hM eX7_readFor_137 rfl (by decide) rfl q795 ?_
      refine aw_bipush (pc' := 142) (v := 100) eX7_readFor_140 rfl (by decide) ?_
      refine aw_iload_n (pc' := 143) eX7_readFor_142 rfl rfl ?_
      refine aw_imul (pc' := 144) eX7_readFor_143 rfl ?_
      refine aw_iload_n (pc' := 145) eX7_readFor_144 rfl rfl ?_
      refine aw_iadd (pc' := 146) eX7_readFor_145 rfl ?_
      refine aw_MaldC (pc' := 147) 5 (100 * r + j) hM eX7_readFor_146 rfl (by decide) (show vp_in _ 600 from (ix100 (r := r) (k := j) (by omega)).2) (ix100 (r := r) (k := j) (by omega)).1 ?_
      refine aw_MastC (pc' := 148) 7 j hM eX7_readFor_147 rfl (by decide) (show vp_in _ 100 from vp_in_nI (by omega) (by omega)) (nI_clamp (by omega)) (fun h3 hM1 hs2 => ?_)
      refine aw_iinc (pc' := 151) eX7_readFor_148 rfl rfl rfl (by decide) ?_
      dsimp only [zst, zst2, zcut]
      refine aw_goto eX7_readFor_151 (by decide) (tgt := 123) ?_
      refine ih (n - (j + 1)) (by omega) (j + 1) _ _ rfl (by omega) (nI_inc j) ?_ (hs.tr hs2)
      have hM9 := hM1
      rw [mup_mset, mset_set, mset_eq] at hM9
      refine hM9.gs fun q hq => ?_
      rw [upd_if]
      show (if q = j then V.1 5 (100 * r + j) else if q < j then V.1 5 (100 * r + q) else V.1 7 q) = _
      by_cases e : q = j
      · rw [if_pos e, if_pos (by omega), e]
      · rw [if_neg e]
        by_cases e2 : q < j
        · rw [if_pos e2, if_pos (by omega)]
        · rw [if_neg e2, if_neg (by omega)]
theorem c_X7_readFor (hM : MAt h u U) {i : Nat} (hi : i < 6) (hz : mZ U) (hg : ∃ q, q ≤ 6 ∧ U.1 1 68 = nI q) (hd : 20 ≤ d) : Ct l G mX7_readFor yX7_readFor d 0 0 [.ref u, .int (nI i)] h (fun r h' => r = none ∧ ∃ U', MAt h' u U' ∧ MK 0 (U.1 1) U U' ∧ U'.2.1 14 = (mRd U (U.1 1) i).1 ∧ U'.2.1 15 = (mRd U (U.1 1) i).2 ∧ Same u 19 h h') := by
  refine ct_of (lv := [some (.ref u), some (.int (nI i)), none, none]) (by decide +kernel) rfl (fun z => by cases z) (fun _ => rfl) (fun _ => Nat.le_of_ble_eq_true rfl) ?_
  refine aw_aload_n (pc' := 1) eX7_readFor_0 rfl rfl trivial ?_
  refine aw_Mref (pc' := 4) (kf := 16) 8 hM eX7_readFor_1 rfl (by decide) rfl q805 ?_
  refine aw_iconst (pc' := 5) (v := 0) eX7_readFor_4 rfl (by decide) ?_
  refine aw_iload_n (pc' := 6) eX7_readFor_5 rfl rfl ?_
  refine aw_MastC (pc' := 7) 8 0 hM eX7_readFor_6 rfl (by decide) (by unfold vp_in; decide) (by decide) (fun h3 hM1 hs2 => ?_)
  refine aw_aload_n (pc' := 8) eX7_readFor_7 rfl rfl trivial ?_
  refine aw_Mref (pc' := 11) (kf := 16) 8 hM1 eX7_readFor_8 rfl (by decide) rfl q805 ?_
  refine aw_iconst (pc' := 12) (v := 1) eX7_readFor_11 rfl (by decide) ?_
  refine aw_aload_n (pc' := 13) eX7_readFor_12 rfl rfl trivial ?_
  refine aw_iload_n (pc' := 14) eX7_readFor_13 rfl rfl ?_
  refine aw_iconst (pc' := 15) (v := 0) eX7_readFor_14 rfl (by decide) ?_
  refine aw_callv (pc' := 18) (nn := 2) (c_one (d := d - 1) hM1 i 0 (by omega) (by omega)) eX7_readFor_15 rfl ⟨q901, q904, q62⟩ q903 q22 ⟨rfl, by decide +kernel, by decide +kernel, by decide +kernel⟩ rfl (by rw [hM1.2.1]; exact ⟨rfl, rfl⟩) rfl ⟨by omega, by decide⟩ ⟨by omega, by omega⟩ rfl (Nat.le_of_ble_eq_true rfl) (fun v4 h5 hq6 => ?_)
  obtain ⟨rfl, rfl⟩ := hq6
  dsimp only [Option.toList, List.cons_append, List.nil_append]
  refine aw_MastC (pc' := 19) 8 1 hM1 eX7_readFor_18 rfl (by decide) (by unfold vp_in; decide) (by decide) (fun h9 hM7 hs8 => ?_)
  have hT10 := hs2.tr hs8
  refine aw_aload_n (pc' := 20) eX7_readFor_19 rfl rfl trivial ?_
  refine aw_Mref (pc' := 23) (kf := 16) 8 hM7 eX7_readFor_20 rfl (by decide) rfl q805 ?_
  refine aw_iconst (pc' := 24) (v := 2) eX7_readFor_23 rfl (by decide) ?_
  refine aw_aload_n (pc' := 25) eX7_readFor_24 rfl rfl trivial ?_
  refine aw_iload_n (pc' := 26) eX7_readFor_25 rfl rfl ?_
  refine aw_iconst (pc' := 27) (v := 1) eX7_readFor_26 rfl (by decide) ?_
  refine aw_callv (pc' := 30) (nn := 2) (c_one (d := d - 1) hM7 i 1 (by omega) (by omega)) eX7_readFor_27 rfl ⟨q901, q904, q62⟩ q903 q22 ⟨rfl, by decide +kernel, by decide +kernel, by decide +kernel⟩ rfl (by rw [hM7.2.1]; exact ⟨rfl, rfl⟩) rfl ⟨by omega, by decide⟩ ⟨by omega, by omega⟩ rfl (Nat.le_of_ble_eq_true rfl) (fun v11 h12 hq13 => ?_)
  obtain ⟨rfl, rfl⟩ := hq13
  dsimp only [Option.toList, List.cons_append, List.nil_append]
  refine aw_MastC (pc' := 31) 8 2 hM7 eX7_readFor_30 rfl (by decide) (by unfold vp_in; decide) (by decide) (fun h16 hM14 hs15 => ?_)
  have hT17 := hT10.tr hs15
  refine aw_aload_n (pc' := 32) eX7_readFor_31 rfl rfl trivial ?_
  refine aw_Mref (pc' := 35) (kf := 16) 8 hM14 eX7_readFor_32 rfl (by decide) rfl q805 ?_
  refine aw_iconst (pc' := 36) (v := 3) eX7_readFor_35 rfl (by decide) ?_
  refine aw_aload_n (pc' := 37) eX7_readFor_36 rfl rfl trivial ?_
  refine aw_iload_n (pc' := 38) eX7_readFor_37 rfl rfl ?_
  refine aw_iconst (pc' := 39) (v := 2) eX7_readFor_38 rfl (by decide) ?_
  refine aw_callv (pc' := 42) (nn := 2) (c_one (d := d - 1) hM14 i 2 (by omega) (by omega)) eX7_readFor_39 rfl ⟨q901, q904, q62⟩ q903 q22 ⟨rfl, by decide +kernel, by decide +kernel, by decide +kernel⟩ rfl (by rw [hM14.2.1]; exact ⟨rfl, rfl⟩) rfl ⟨by omega, by decide⟩ ⟨by omega, by omega⟩ rfl (Nat.le_of_ble_eq_true rfl) (fun v18 h19 hq20 => ?_)
  obtain ⟨rfl, rfl⟩ := hq20
  dsimp only [Option.toList, List.cons_append, List.nil_append]
  refine aw_MastC (pc' := 43) 8 3 hM14 eX7_readFor_42 rfl (by decide) (by unfold vp_in; decide) (by decide) (fun h23 hM21 hs22 => ?_)
  have hT24 := hT17.tr hs22
  refine aw_aload_n (pc' := 44) eX7_readFor_43 rfl rfl trivial ?_
  refine aw_Mref (pc' := 47) (kf := 16) 8 hM21 eX7_readFor_44 rfl (by decide) rfl q805 ?_
  refine aw_iconst (pc' := 48) (v := 4) eX7_readFor_47 rfl (by decide) ?_
  refine aw_aload_n (pc' := 49) eX7_readFor_48 rfl rfl trivial ?_
  refine aw_iload_n (pc' := 50) eX7_readFor_49 rfl rfl ?_
  refine aw_iconst (pc' := 51) (v := 4) eX7_readFor_50 rfl (by decide) ?_
  refine aw_callv (pc' := 54) (nn := 2) (c_one (d := d - 1) hM21 i 4 (by omega) (by omega)) eX7_readFor_51 rfl ⟨q901, q904, q62⟩ q903 q22 ⟨rfl, by decide +kernel, by decide +kernel, by decide +kernel⟩ rfl (by rw [hM21.2.1]; exact ⟨rfl, rfl⟩) rfl ⟨by omega, by decide⟩ ⟨by omega, by omega⟩ rfl (Nat.le_of_ble_eq_true rfl) (fun v25 h26 hq27 => ?_)
  obtain ⟨rfl, rfl⟩ := hq27
  dsimp only [Option.toList, List.cons_append, List.nil_append]
  refine aw_bipush (pc' := 56) (v := 10) eX7_readFor_54 rfl (by decide) ?_
  refine aw_irem (pc' := 57) eX7_readFor_56 rfl (by decide) ?_
  refine aw_MastC (pc' := 58) 8 4 hM21 eX7_readFor_57 rfl (by decide) (by unfold vp_in; decide) (by decide) (fun h30 hM28 hs29 => ?_)
  have hT31 := hT24.tr hs29
  refine aw_aload_n (pc' := 59) eX7_readFor_58 rfl rfl trivial ?_
  refine aw_Mref (pc' := 62) (kf := 16) 8 hM28 eX7_readFor_59 rfl (by decide) rfl q805 ?_
  refine aw_iconst (pc' := 63) (v := 5) eX7_readFor_62 rfl (by decide) ?_
  refine aw_aload_n (pc' := 64) eX7_readFor_63 rfl rfl trivial ?_
  refine aw_Mref (pc' := 67) (kf := 0) 1 hM28 eX7_readFor_64 rfl (by decide) rfl q789 ?_
  refine aw_bipush (pc' := 69) (v := 67) eX7_readFor_67 rfl (by decide) ?_
  refine aw_MaldC (pc' := 70) 1 67 hM28 eX7_readFor_69 rfl (by decide) (by unfold vp_in; decide) (by decide) ?_
  refine aw_bipush (pc' := 72) (v := 10) eX7_readFor_70 rfl (by decide) ?_
  refine aw_irem (pc' := 73) eX7_readFor_72 rfl (by decide) ?_
  refine aw_MastC (pc' := 74) 8 5 hM28 eX7_readFor_73 rfl (by decide) (by unfold vp_in; decide) (by decide) (fun h34 hM32 hs33 => ?_)
  have hT35 := hT31.tr hs33
  have hM8 : MAt _ u (mset U 8 (mNm (U.1 1) i)) := MAt.nm (g := U.1 1) hM32 rfl rfl rfl rfl rfl rfl
  have hs8 := hT35
  refine aw_aload_n (pc' := 75) eX7_readFor_74 rfl rfl trivial ?_
  refine aw_Mref (pc' := 78) (kf := 0) 1 hM8 eX7_readFor_75 rfl (by decide) rfl q789 ?_
  refine aw_bipush (pc' := 80) (v := 68) eX7_readFor_78 rfl (by decide) ?_
  refine aw_MaldC (pc' := 81) 1 68 hM8 eX7_readFor_80 rfl (by decide) (by unfold vp_in; decide) (by decide) ?_
  refine aw_if_ne (pc' := 84) (tgt := 101) eX7_readFor_81 rfl (by decide) (fun c_81 => ?_) (fun c_81 => ?_)
  · obtain ⟨q, hq6, eq⟩ := hg
    have hq0 : q ≠ 0 := fun z => by
      have y := c_81
      rw [show (mset U 8 (mNm (U.1 1) i)).1 1 68 = nI q from eq, z] at y
      exact absurd rfl y
    obtain ⟨r, rfl⟩ : ∃ r, q = r + 1 := ⟨q - 1, by omega⟩
    have hr6 : r < 6 := by omega
    have er : (mset U 8 (mNm (U.1 1) i)).1 1 68 - 1 = nI r := by rw [show (mset U 8 (mNm (U.1 1) i)).1 1 68 = nI (r + 1) from eq]; exact nI_m1
    obtain ⟨n, hn, en⟩ := hz r hr6
    have hvr : vp_in (nI r) 6 := vp_in_nI hr6 (by omega)
    have hcr : (nI r).toNatClampNeg = r := nI_clamp (by omega)
    refine aw_aload_n (pc' := 102) eX7_readFor_101 rfl rfl trivial ?_
    refine aw_Mref (pc' := 105) (kf := 0) 1 hM8 eX7_readFor_102 rfl (by decide) rfl q789 ?_
    refine aw_bipush (pc' := 107) (v := 68) eX7_readFor_105 rfl (by decide) ?_
    refine aw_MaldC (pc' := 108) 1 68 hM8 eX7_readFor_107 rfl (by decide) (by unfold vp_in; decide) (by decide) ?_
    refine aw_iconst (pc' := 109) (v := 1) eX7_readFor_108 rfl (by decide) ?_
    refine aw_isub (pc' := 110) eX7_readFor_109 rfl ?_
    rw [er]
    refine aw_istore_n (pc' := 111) eX7_readFor_110 rfl (by decide) ?_
    dsimp only [zst, zst2, zcut]
    refine aw_aload_n (pc' := 112) eX7_readFor_111 rfl rfl trivial ?_
    refine aw_aload_n (pc' := 113) eX7_readFor_112 rfl rfl trivial ?_
    refine aw_Mref (pc' := 116) (kf := 7) 6 hM8 eX7_readFor_113 rfl (by decide) rfl q796 ?_
    refine aw_iload_n (pc' := 117) eX7_readFor_116 rfl rfl ?_
    refine aw_MaldC (pc' := 118) 6 r hM8 eX7_readFor_117 rfl (by decide) hvr hcr ?_
    refine aw_Mput (pc' := 121) 10 hM8 eX7_readFor_118 rfl (by decide) (fun z => absurd z (by decide)) q799 (fun h38 hM36 hs37 => ?_)
    have hT39 := hs8.tr hs37
    refine aw_iconst (pc' := 122) (v := 0) eX7_readFor_121 rfl (by decide) ?_
    refine aw_istore_n (pc' := 123) eX7_readFor_122 rfl (by decide) ?_
    dsimp only [zst, zst2, zcut]
    refine lp_X7_readFor (V := msc (mset U 8 (mNm (U.1 1) i)) 10 (U.1 6 r)) (n := n) hr6 en hn (fun h' y' m9 s9 => ?_) n 0 _ _ (by omega) (by omega) rfl (MAt.id hM36 fun q hq => by rw [if_neg (by omega)]) hT39
    have eR : pRA (fun q => if q < n then U.1 5 (100 * r + q) else U.1 7 q) n (U.1 9) (mNm (U.1 1) i) (U.1 10) = pRA (fun k => U.1 5 (100 * r + k)) n (U.1 9) (mNm (U.1 1) i) (U.1 10) := pRA_ext (fun k hk => if_pos hk) (fun _ _ => rfl)
    have eM : mRd U (U.1 1) i = (pRA (fun k => U.1 5 (100 * r + k)) n (U.1 9) (mNm (U.1 1) i) (U.1 10)).2 := by
      rw [mRd, if_neg (by rw [eq]; intro z; exact absurd ((nI_eq (a := r + 1) (b := 0) (by omega) (by omega)).mp z) (by omega)), eq, nI_m1, hcr, en, nI_clamp (by omega)]
    refine aw_aload_n (pc' := 155) eX7_readFor_154 rfl rfl trivial ?_
    refine aw_callv (pc' := 158) (nn := 0) (c_X7_readAll (d := d - 1) m9 (n := n) ⟨en, hn⟩ (by omega)) eX7_readFor_155 rfl ⟨q913, q916, q62⟩ q915 q25 ⟨rfl, by decide +kernel, by decide +kernel, by decide +kernel⟩ rfl (by rw [m9.2.1]; exact ⟨rfl, rfl⟩) rfl ⟨by omega, by decide⟩ ⟨by omega, by omega⟩ rfl (Nat.le_of_ble_eq_true rfl) (fun v1 h2 hq3 => ?_)
    obtain ⟨rfl, k7, m7, s7⟩ := hq3
    dsimp only [Option.toList, List.cons_append, List.nil_append]
    refine aw_pop (pc' := 159) eX7_readFor_158 rfl rfl ?_
    refine aw_ret (v := none) eX7_readFor_159 rfl (by omega) (by omega) rfl ?_
    exact ⟨rfl, _, m7, ⟨rfl, fun j hj => by (show (if j = 7 then _ else if j = 8 then _ else U.1 j) = _; rw [if_neg (by unfold msv at hj; omega), if_neg (by unfold msv at hj; omega)]), fun k hk => by (show (if k = 11 then _ else if k = 12 then _ else if k = 13 then _ else if k = 15 then _ else if k = 14 then _ else if k = 10 then _ else U.2.1 k) = _; rw [if_neg (by omega), if_neg (by omega), if_neg (by omega), if_neg (by omega), if_neg (by omega), if_neg (by omega)]), rfl⟩, by rw [eM, ← eR]; rfl, by rw [eM, ← eR]; rfl, s9.tr s7⟩
  · have c81 : U.1 1 68 = 0 := by first | exact c_81 | exact Decidable.not_not.mp c_81
    refine aw_aload_n (pc' := 85) eX7_readFor_84 rfl rfl trivial ?_
    refine aw_aload_n (pc' := 86) eX7_readFor_85 rfl rfl trivial ?_
    refine aw_Mref (pc' := 89) (kf := 16) 8 hM8 eX7_readFor_86 rfl (by decide) rfl q805 ?_
    refine aw_iconst (pc' := 90) (v := 3) eX7_readFor_89 rfl (by decide) ?_
    refine aw_MaldC (pc' := 91) 8 3 hM8 eX7_readFor_90 rfl (by decide) (by unfold vp_in; decide) (by decide) ?_
    refine aw_Mput (pc' := 94) 14 hM8 eX7_readFor_91 rfl (by decide) (fun z => absurd z (by decide)) q803 (fun h42 hM40 hs41 => ?_)
    have hT43 := hs8.tr hs41
    refine aw_aload_n (pc' := 95) eX7_readFor_94 rfl rfl trivial ?_
    refine aw_bipush (pc' := 97) (v := 30) eX7_readFor_95 rfl (by decide) ?_
    refine aw_Mput (pc' := 100) 15 hM40 eX7_readFor_97 rfl (by decide) (fun z => absurd z (by decide)) q804 (fun h46 hM44 hs45 => ?_)
    have hT47 := hT43.tr hs45
    refine aw_ret (v := none) eX7_readFor_100 rfl (by omega) (by omega) rfl ?_
    exact ⟨rfl, _, hM44, ⟨rfl, fun j hj => by first | (show (if j = 8 then _ else U.1 j) = _; rw [if_neg (by unfold msv at hj; omega)]), fun k hk => by first | (show (if k = 15 then _ else if k = 14 then _ else U.2.1 k) = _; rw [if_neg (by omega), if_neg (by omega)]), rfl⟩, by rw [mRd, if_pos c81]; rfl, by rw [mRd, if_pos c81]; rfl, hT47⟩
end M12
end
section
/-! the model: how heavy each lies -/
section M13
variable {l : Launch} {G : GT} {u : Nat} {U U1 : MS} {d n m t : Nat} {g : Nat → Int32} {h : Hp} {Q : Option Value → Hp → Prop}
def sTwin (g : Nat → Int32) (i : Nat) : Nat → Bool
  | 0 => false
  | k + 1 => sTwin g i k || (decide (k ≠ i) && (decide (g (10 * k) = 3) || decide (g (10 * k) = 6)) && decide (g (10 * k + 3) = 1))
def sLoad (s : Int32) (g : Nat → Int32) (m t i : Nat) : Int32 :=
  if g (10 * i) = 1 then s + g (10 * i + 1) else if g (10 * i) = 2 then s / 2 else if g (10 * i) = 3 then s + (if sTwin g i m = true then 5 else 0)
  else if g (10 * i) = 4 then (if g (10 * i + 4) < g (10 * i + 1) then 0 else s + g (10 * i + 1)) else if g (10 * i) = 5 then s / 2 + (if g (10 * i + 4) < 9 then g (10 * i + 4) else 9)
  else if g (10 * i) = 6 then s + (if sTwin g i m = true then 5 else 0) + g (10 * i + (6 + t % 4)) else s
abbrev FT : Type := (Nat → Int32) → Nat → Int32 × Int32
def lod (F : FT) (g : Nat → Int32) (m t i : Nat) : Int32 := sLoad (F g i).1 g m t i
def sLoads (F : FT) (g : Nat → Int32) (m t : Nat) : Nat → Int32
  | 0 => 0
  | i + 1 => sLoads F g m t i + (if g (10 * i + 3) = 1 then lod F g m t i else 0)
theorem nI_ne {a b : Nat} (ha : a < 2 ^ 31) (hb : b < 2 ^ 31) : (¬ nI a = nI b) ↔ a ≠ b := by rw [nI_eq ha hb]

abbrev mX7_isAnotherTwin : MT := (RX7, cX7_isAnotherTwin, 4, (some .boolean), false)
theorem eX7_isAnotherTwin_0 : decode mX7_isAnotherTwin.2.1 0 = .ok (.iconst 0, 1) := by decide +kernel
theorem eX7_isAnotherTwin_1 : decode mX7_isAnotherTwin.2.1 1 = .ok (.istore_n 2, 1) := by decide +kernel
theorem eX7_isAnotherTwin_2 : decode mX7_isAnotherTwin.2.1 2 = .ok (.iconst 0, 1) := by decide +kernel
theorem eX7_isAnotherTwin_3 : decode mX7_isAnotherTwin.2.1 3 = .ok (.istore_n 3, 1) := by decide +kernel
theorem eX7_isAnotherTwin_4 : decode mX7_isAnotherTwin.2.1 4 = .ok (.iload_n 3, 1) := by decide +kernel
theorem eX7_isAnotherTwin_5 : decode mX7_isAnotherTwin.2.1 5 = .ok (.aload_n 0, 1) := by decide +kernel
theorem eX7_isAnotherTwin_6 : decode mX7_isAnotherTwin.2.1 6 = .ok (.getfield 15, 3) := by decide +kernel
theorem eX7_isAnotherTwin_9 : decode mX7_isAnotherTwin.2.1 9 = .ok (.bipush 60, 2) := by decide +kernel
theorem eX7_isAnotherTwin_11 : decode mX7_isAnotherTwin.2.1 11 = .ok (.iaload, 1) := by decide +kernel
theorem eX7_isAnotherTwin_12 : decode mX7_isAnotherTwin.2.1 12 = .ok (.if_icmp .ge 54, 3) := by decide +kernel
theorem eX7_isAnotherTwin_15 : decode mX7_isAnotherTwin.2.1 15 = .ok (.iload_n 2, 1) := by decide +kernel
theorem eX7_isAnotherTwin_16 : decode mX7_isAnotherTwin.2.1 16 = .ok (.ifCond .ne 38, 3) := by decide +kernel
theorem eX7_isAnotherTwin_19 : decode mX7_isAnotherTwin.2.1 19 = .ok (.iload_n 3, 1) := by decide +kernel
theorem eX7_isAnotherTwin_20 : decode mX7_isAnotherTwin.2.1 20 = .ok (.iload_n 1, 1) := by decide +kernel
theorem eX7_isAnotherTwin_21 : decode mX7_isAnotherTwin.2.1 21 = .ok (.if_icmp .eq 37, 3) := by decide +kernel
theorem eX7_isAnotherTwin_24 : decode mX7_isAnotherTwin.2.1 24 = .ok (.aload_n 0, 1) := by decide +kernel
theorem eX7_isAnotherTwin_25 : decode mX7_isAnotherTwin.2.1 25 = .ok (.iload_n 3, 1) := by decide +kernel
theorem eX7_isAnotherTwin_26 : decode mX7_isAnotherTwin.2.1 26 = .ok (.iconst 0, 1) := by decide +kernel
theorem eX7_isAnotherTwin_27 : decode mX7_isAnotherTwin.2.1 27 = .ok (.invokevirtual 84, 3) := by decide +kernel
theorem eX7_isAnotherTwin_30 : decode mX7_isAnotherTwin.2.1 30 = .ok (.iconst 3, 1) := by decide +kernel
theorem eX7_isAnotherTwin_31 : decode mX7_isAnotherTwin.2.1 31 = .ok (.if_icmp .eq 14, 3) := by decide +kernel
theorem eX7_isAnotherTwin_34 : decode mX7_isAnotherTwin.2.1 34 = .ok (.aload_n 0, 1) := by decide +kernel
theorem eX7_isAnotherTwin_35 : decode mX7_isAnotherTwin.2.1 35 = .ok (.iload_n 3, 1) := by decide +kernel
theorem eX7_isAnotherTwin_36 : decode mX7_isAnotherTwin.2.1 36 = .ok (.iconst 0, 1) := by decide +kernel
theorem eX7_isAnotherTwin_37 : decode mX7_isAnotherTwin.2.1 37 = .ok (.invokevirtual 84, 3) := by decide +kernel
theorem eX7_isAnotherTwin_40 : decode mX7_isAnotherTwin.2.1 40 = .ok (.bipush 6, 2) := by decide +kernel
theorem eX7_isAnotherTwin_42 : decode mX7_isAnotherTwin.2.1 42 = .ok (.if_icmp .ne 16, 3) := by decide +kernel
theorem eX7_isAnotherTwin_45 : decode mX7_isAnotherTwin.2.1 45 = .ok (.aload_n 0, 1) := by decide +kernel
theorem eX7_isAnotherTwin_46 : decode mX7_isAnotherTwin.2.1 46 = .ok (.iload_n 3, 1) := by decide +kernel
theorem eX7_isAnotherTwin_47 : decode mX7_isAnotherTwin.2.1 47 = .ok (.iconst 1, 1) := by decide +kernel
theorem eX7_isAnotherTwin_48 : decode mX7_isAnotherTwin.2.1 48 = .ok (.invokevirtual 105, 3) := by decide +kernel
theorem eX7_isAnotherTwin_51 : decode mX7_isAnotherTwin.2.1 51 = .ok (.ifCond .eq 7, 3) := by decide +kernel
theorem eX7_isAnotherTwin_54 : decode mX7_isAnotherTwin.2.1 54 = .ok (.iconst 1, 1) := by decide +kernel
theorem eX7_isAnotherTwin_55 : decode mX7_isAnotherTwin.2.1 55 = .ok (.goto 4, 3) := by decide +kernel
theorem eX7_isAnotherTwin_58 : decode mX7_isAnotherTwin.2.1 58 = .ok (.iconst 0, 1) := by decide +kernel
theorem eX7_isAnotherTwin_59 : decode mX7_isAnotherTwin.2.1 59 = .ok (.istore_n 2, 1) := by decide +kernel
theorem eX7_isAnotherTwin_60 : decode mX7_isAnotherTwin.2.1 60 = .ok (.iinc 3 1, 3) := by decide +kernel
theorem eX7_isAnotherTwin_63 : decode mX7_isAnotherTwin.2.1 63 = .ok (.goto (-59), 3) := by decide +kernel
theorem eX7_isAnotherTwin_66 : decode mX7_isAnotherTwin.2.1 66 = .ok (.iload_n 2, 1) := by decide +kernel
theorem eX7_isAnotherTwin_67 : decode mX7_isAnotherTwin.2.1 67 = .ok (.ireturn, 1) := by decide +kernel
theorem lp_X7_isAnotherTwin (hM : MAt h u U) (hm : U.1 1 60 = nI m) (hm6 : m ≤ 6) {i : Nat} (hi : i < 6) (hd : 2 ≤ d) (hQ : Q (some (.int (zb (sTwin (U.1 1) i m)))) h) : ∀ (j k : Nat) (y x : Int32), j = m - k → k ≤ m → y = nI k → x = zb (sTwin (U.1 1) i k) → AW l G mX7_isAnotherTwin d 0 0 Q 0 0 h [some (.ref u), some (.int (nI i)), some (.int x), some (.int y)] [] 4 := by
  intro j
  induction j using Nat.strongRecOn with
  | _ j ih =>
    intro k y x hj hk hy hx
    subst hy hx
    refine aw_iload_n (pc' := 5) eX7_isAnotherTwin_4 rfl rfl ?_
    refine aw_aload_n (pc' := 6) eX7_isAnotherTwin_5 rfl rfl trivial ?_
    refine aw_Mref (pc' := 9) (kf := 0) 1 hM eX7_isAnotherTwin_6 rfl (by decide) rfl q789 ?_
    refine aw_bipush (pc' := 11) (v := 60) eX7_isAnotherTwin_9 rfl (by decide) ?_
    refine aw_MaldC (pc' := 12) 1 60 hM eX7_isAnotherTwin_11 rfl (by decide) (by unfold vp_in; decide) (by decide) ?_
    refine aw_icmp_ge (pc' := 15) (tgt := 66) eX7_isAnotherTwin_12 rfl (by decide) (fun c_12 => ?_) (fun c_12 => ?_)
    · rw [hm] at c_12
      have c9 := ge_nI (by omega) (by omega) c_12
      obtain rfl : k = m := by omega
      refine aw_iload_n (pc' := 67) eX7_isAnotherTwin_66 rfl rfl ?_
      refine aw_ret (v := some (.int _)) eX7_isAnotherTwin_67 ⟨rfl, zbn _⟩ (by omega) (by omega) rfl ?_
      exact hQ
    · rw [hm] at c_12
      have c9 := nge_nI (by omega) (by omega) c_12
      refine aw_iload_n (pc' := 16) eX7_isAnotherTwin_15 rfl rfl ?_
      refine aw_if_ne (pc' := 19) (tgt := 54) eX7_isAnotherTwin_16 rfl (by decide) (fun c_16 => ?_) (fun c_16 => ?_)
      · refine aw_iconst (pc' := 55) (v := 1) eX7_isAnotherTwin_54 rfl (by decide) ?_
        refine aw_goto eX7_isAnotherTwin_55 (by decide) (tgt := 59) ?_
        refine aw_istore_n (pc' := 60) eX7_isAnotherTwin_59 rfl (by decide) ?_
        dsimp only [zst, zst2, zcut]
        refine aw_iinc (pc' := 63) eX7_isAnotherTwin_60 rfl rfl rfl (by decide) ?_
        dsimp only [zst, zst2, zcut]
        refine aw_goto eX7_isAnotherTwin_63 (by decide) (tgt := 4) ?_
        have c_16 := zb_ne0.mp c_16
        refine ih (m - (k + 1)) (by omega) (k + 1) _ _ rfl (by omega) (nI_inc k) ?_
        first | (simp [sTwin, zb, c_16]; done) | (simp_all [sTwin, zb]; done)
      · refine aw_iload_n (pc' := 20) eX7_isAnotherTwin_19 rfl rfl ?_
        refine aw_iload_n (pc' := 21) eX7_isAnotherTwin_20 rfl rfl ?_
        refine aw_icmp_eq (pc' := 24) (tgt := 58) eX7_isAnotherTwin_21 rfl (by decide) (fun c_21 => ?_) (fun c_21 => ?_)
        · refine aw_iconst (pc' := 59) (v := 0) eX7_isAnotherTwin_58 rfl (by decide) ?_
          refine aw_istore_n (pc' := 60) eX7_isAnotherTwin_59 rfl (by decide) ?_
          dsimp only [zst, zst2, zcut]
          refine aw_iinc (pc' := 63) eX7_isAnotherTwin_60 rfl rfl rfl (by decide) ?_
          dsimp only [zst, zst2, zcut]
          refine aw_goto eX7_isAnotherTwin_63 (by decide) (tgt := 4) ?_
          simp only [zb_eq0, Bool.not_eq_false, Bool.not_eq_true, decide_eq_true_eq, decide_eq_false_iff_not, Decidable.not_not] at c_16
          have g21 := (nI_eq (by omega) (by omega)).mp c_21
          refine ih (m - (k + 1)) (by omega) (k + 1) _ _ rfl (by omega) (nI_inc k) ?_
          first | (simp [sTwin, zb, c_16, g21]; done) | (simp_all [sTwin, zb]; done)
        · refine aw_aload_n (pc' := 25) eX7_isAnotherTwin_24 rfl rfl trivial ?_
          refine aw_iload_n (pc' := 26) eX7_isAnotherTwin_25 rfl rfl ?_
          refine aw_iconst (pc' := 27) (v := 0) eX7_isAnotherTwin_26 rfl (by decide) ?_
          refine aw_callv (pc' := 30) (nn := 2) (c_one (d := d - 1) hM k 0 (by omega) (by omega)) eX7_isAnotherTwin_27 rfl ⟨q901, q904, q62⟩ q903 q22 ⟨rfl, by decide +kernel, by decide +kernel, by decide +kernel⟩ rfl (by rw [hM.2.1]; exact ⟨rfl, rfl⟩) rfl ⟨by omega, by decide⟩ ⟨by omega, by omega⟩ rfl (Nat.le_of_ble_eq_true rfl) (fun v1 h2 hq3 => ?_)
          obtain ⟨rfl, rfl⟩ := hq3
          dsimp only [Option.toList, List.cons_append, List.nil_append]
          refine aw_iconst (pc' := 31) (v := 3) eX7_isAnotherTwin_30 rfl (by decide) ?_
          refine aw_icmp_eq (pc' := 34) (tgt := 45) eX7_isAnotherTwin_31 rfl (by decide) (fun c_31 => ?_) (fun c_31 => ?_)
          · refine aw_aload_n (pc' := 46) eX7_isAnotherTwin_45 rfl rfl trivial ?_
            refine aw_iload_n (pc' := 47) eX7_isAnotherTwin_46 rfl rfl ?_
            refine aw_iconst (pc' := 48) (v := 1) eX7_isAnotherTwin_47 rfl (by decide) ?_
            refine aw_callv (pc' := 51) (nn := 2) (c_isAs (d := d - 1) hM k 1 (by omega) (by omega)) eX7_isAnotherTwin_48 rfl ⟨q957, q960, q62⟩ q959 q36 ⟨rfl, by decide +kernel, by decide +kernel, by decide +kernel⟩ rfl (by rw [hM.2.1]; exact ⟨rfl, rfl⟩) rfl ⟨by omega, by decide⟩ ⟨by omega, by omega⟩ rfl (Nat.le_of_ble_eq_true rfl) (fun v4 h5 hq6 => ?_)
            obtain ⟨rfl, rfl⟩ := hq6
            dsimp only [Option.toList, List.cons_append, List.nil_append]
            refine aw_if_eq (pc' := 54) (tgt := 58) eX7_isAnotherTwin_51 rfl (by decide) (fun c_51 => ?_) (fun c_51 => ?_)
            · refine aw_iconst (pc' := 59) (v := 0) eX7_isAnotherTwin_58 rfl (by decide) ?_
              refine aw_istore_n (pc' := 60) eX7_isAnotherTwin_59 rfl (by decide) ?_
              dsimp only [zst, zst2, zcut]
              refine aw_iinc (pc' := 63) eX7_isAnotherTwin_60 rfl rfl rfl (by decide) ?_
              dsimp only [zst, zst2, zcut]
              refine aw_goto eX7_isAnotherTwin_63 (by decide) (tgt := 4) ?_
              simp only [zb_eq0, Bool.not_eq_false, Bool.not_eq_true, decide_eq_true_eq, decide_eq_false_iff_not, Decidable.not_not] at c_16
              have g21 := (nI_ne (by omega) (by omega)).mp c_21
              have c_31 := (c_31 : _)
              simp only [zb_eq0, Bool.not_eq_false, Bool.not_eq_true, decide_eq_true_eq, decide_eq_false_iff_not, Decidable.not_not] at c_51
              refine ih (m - (k + 1)) (by omega) (k + 1) _ _ rfl (by omega) (nI_inc k) ?_
              first | (simp [sTwin, zb, c_16, g21, c_31, c_51]; done) | (simp_all [sTwin, zb]; done)
            · refine aw_iconst (pc' := 55) (v := 1) eX7_isAnotherTwin_54 rfl (by decide) ?_
              refine aw_goto eX7_isAnotherTwin_55 (by decide) (tgt := 59) ?_
              refine aw_istore_n (pc' := 60) eX7_isAnotherTwin_59 rfl (by decide) ?_
              dsimp only [zst, zst2, zcut]
              refine aw_iinc (pc' := 63) eX7_isAnotherTwin_60 rfl rfl rfl (by decide) ?_
              dsimp only [zst, zst2, zcut]
              refine aw_goto eX7_isAnotherTwin_63 (by decide) (tgt := 4) ?_
              simp only [zb_eq0, Bool.not_eq_false, Bool.not_eq_true, decide_eq_true_eq, decide_eq_false_iff_not, Decidable.not_not] at c_16
              have g21 := (nI_ne (by omega) (by omega)).mp c_21
              have c_31 := (c_31 : _)
              simp only [zb_eq0, Bool.not_eq_false, Bool.not_eq_true, decide_eq_true_eq, decide_eq_false_iff_not, Decidable.not_not] at c_51
              refine ih (m - (k + 1)) (by omega) (k + 1) _ _ rfl (by omega) (nI_inc k) ?_
              first | (simp [sTwin, zb, c_16, g21, c_31, c_51]; done) | (simp_all [sTwin, zb]; done)
          · refine aw_aload_n (pc' := 35) eX7_isAnotherTwin_34 rfl rfl trivial ?_
            refine aw_iload_n (pc' := 36) eX7_isAnotherTwin_35 rfl rfl ?_
            refine aw_iconst (pc' := 37) (v := 0) eX7_isAnotherTwin_36 rfl (by decide) ?_
            refine aw_callv (pc' := 40) (nn := 2) (c_one (d := d - 1) hM k 0 (by omega) (by omega)) eX7_isAnotherTwin_37 rfl ⟨q901, q904, q62⟩ q903 q22 ⟨rfl, by decide +kernel, by decide +kernel, by decide +kernel⟩ rfl (by rw [hM.2.1]; exact ⟨rfl, rfl⟩) rfl ⟨by omega, by decide⟩ ⟨by omega, by omega⟩ rfl (Nat.le_of_ble_eq_true rfl) (fun v7 h8 hq9 => ?_)
            obtain ⟨rfl, rfl⟩ := hq9
            dsimp only [Option.toList, List.cons_append, List.nil_append]
            refine aw_bipush (pc' := 42) (v := 6) eX7_isAnotherTwin_40 rfl (by decide) ?_
            refine aw_icmp_ne (pc' := 45) (tgt := 58) eX7_isAnotherTwin_42 rfl (by decide) (fun c_42 => ?_) (fun c_42 => ?_)
            · refine aw_iconst (pc' := 59) (v := 0) eX7_isAnotherTwin_58 rfl (by decide) ?_
              refine aw_istore_n (pc' := 60) eX7_isAnotherTwin_59 rfl (by decide) ?_
              dsimp only [zst, zst2, zcut]
              refine aw_iinc (pc' := 63) eX7_isAnotherTwin_60 rfl rfl rfl (by decide) ?_
              dsimp only [zst, zst2, zcut]
              refine aw_goto eX7_isAnotherTwin_63 (by decide) (tgt := 4) ?_
              simp only [zb_eq0, Bool.not_eq_false, Bool.not_eq_true, decide_eq_true_eq, decide_eq_false_iff_not, Decidable.not_not] at c_16
              have g21 := (nI_ne (by omega) (by omega)).mp c_21
              have c_31 := (c_31 : _)
              have c_42 := (c_42 : _)
              refine ih (m - (k + 1)) (by omega) (k + 1) _ _ rfl (by omega) (nI_inc k) ?_
              first | (simp [sTwin, zb, c_16, g21, c_31, c_42]; done) | (simp_all [sTwin, zb]; done)
            · refine aw_aload_n (pc' := 46) eX7_isAnotherTwin_45 rfl rfl trivial ?_
              refine aw_iload_n (pc' := 47) eX7_isAnotherTwin_46 rfl rfl ?_
              refine aw_iconst (pc' := 48) (v := 1) eX7_isAnotherTwin_47 rfl (by decide) ?_
              refine aw_callv (pc' := 51) (nn := 2) (c_isAs (d := d - 1) hM k 1 (by omega) (by omega)) eX7_isAnotherTwin_48 rfl ⟨q957, q960, q62⟩ q959 q36 ⟨rfl, by decide +kernel, by decide +kernel, by decide +kernel⟩ rfl (by rw [hM.2.1]; exact ⟨rfl, rfl⟩) rfl ⟨by omega, by decide⟩ ⟨by omega, by omega⟩ rfl (Nat.le_of_ble_eq_true rfl) (fun v10 h11 hq12 => ?_)
              obtain ⟨rfl, rfl⟩ := hq12
              dsimp only [Option.toList, List.cons_append, List.nil_append]
              refine aw_if_eq (pc' := 54) (tgt := 58) eX7_isAnotherTwin_51 rfl (by decide) (fun c_51 => ?_) (fun c_51 => ?_)
              · refine aw_iconst (pc' := 59) (v := 0) eX7_isAnotherTwin_58 rfl (by decide) ?_
                refine aw_istore_n (pc' := 60) eX7_isAnotherTwin_59 rfl (by decide) ?_
                dsimp only [zst, zst2, zcut]
                refine aw_iinc (pc' := 63) eX7_isAnotherTwin_60 rfl rfl rfl (by decide) ?_
                dsimp only [zst, zst2, zcut]
                refine aw_goto eX7_isAnotherTwin_63 (by decide) (tgt := 4) ?_
                simp only [zb_eq0, Bool.not_eq_false, Bool.not_eq_true, decide_eq_true_eq, decide_eq_false_iff_not, Decidable.not_not] at c_16
                have g21 := (nI_ne (by omega) (by omega)).mp c_21
                have c_31 := (c_31 : _)
                have c_42 := (c_42 : _)
                simp only [zb_eq0, Bool.not_eq_false, Bool.not_eq_true, decide_eq_true_eq, decide_eq_false_iff_not, Decidable.not_not] at c_51
                refine ih (m - (k + 1)) (by omega) (k + 1) _ _ rfl (by omega) (nI_inc k) ?_
                first | (simp [sTwin, zb, c_16, g21, c_31, c_42, c_51]; done) | (simp_all [sTwin, zb]; done)
              · refine aw_iconst (pc' := 55) (v := 1) eX7_isAnotherTwin_54 rfl (by decide) ?_
                refine aw_goto eX7_isAnotherTwin_55 (by decide) (tgt := 59) ?_
                refine aw_istore_n (pc' := 60) eX7_isAnotherTwin_59 rfl (by decide) ?_
                dsimp only [zst, zst2, zcut]
                refine aw_iinc (pc' := 63) eX7_isAnotherTwin_60 rfl rfl rfl (by decide) ?_
                dsimp only [zst, zst2, zcut]
                refine aw_goto eX7_isAnotherTwin_63 (by decide) (tgt := 4) ?_
                simp only [zb_eq0, Bool.not_eq_false, Bool.not_eq_true, decide_eq_true_eq, decide_eq_false_iff_not, Decidable.not_not] at c_16
                have g21 := (nI_ne (by omega) (by omega)).mp c_21
                have c_31 := (c_31 : _)
                have c_42 := (c_42 : _)
                simp only [zb_eq0, Bool.not_eq_false, Bool.not_eq_true, decide_eq_true_eq, decide_eq_false_iff_not, Decidable.not_not] at c_51
                refine ih (m - (k + 1)) (by omega) (k + 1) _ _ rfl (by omega) (nI_inc k) ?_
                first | (simp [sTwin, zb, c_16, g21, c_31, c_42, c_51]; done) | (simp_all [sTwin, zb]; done)
theorem c_X7_isAnotherTwin (hM : MAt h u U) (hm : U.1 1 60 = nI m) (hm6 : m ≤ 6) {i : Nat} (hi : i < 6) (hd : 2 ≤ d) : Ct l G mX7_isAnotherTwin yX7_isAnotherTwin d 0 0 [.ref u, .int (nI i)] h (fun r h' => r = some (.int (zb (sTwin (U.1 1) i m))) ∧ h' = h) := by
  refine ct_of (lv := [some (.ref u), some (.int (nI i)), none, none]) (by decide +kernel) rfl (fun z => by cases z) (fun _ => rfl) (fun _ => Nat.le_of_ble_eq_true rfl) ?_
  refine aw_iconst (pc' := 1) (v := 0) eX7_isAnotherTwin_0 rfl (by decide) ?_
  refine aw_istore_n (pc' := 2) eX7_isAnotherTwin_1 rfl (by decide) ?_
  dsimp only [zst, zst2, zcut]
  refine aw_iconst (pc' := 3) (v := 0) eX7_isAnotherTwin_2 rfl (by decide) ?_
  refine aw_istore_n (pc' := 4) eX7_isAnotherTwin_3 rfl (by decide) ?_
  dsimp only [zst, zst2, zcut]
  exact lp_X7_isAnotherTwin hM hm hm6 hi hd ⟨rfl, rfl⟩ m 0 _ _ (by omega) (by omega) rfl rfl
abbrev mX7_load : MT := (RX7, cX7_load, 3, (some .int), false)
theorem eX7_load_0 : decode mX7_load.2.1 0 = .ok (.aload_n 0, 1) := by decide +kernel
theorem eX7_load_1 : decode mX7_load.2.1 1 = .ok (.iload_n 1, 1) := by decide +kernel
theorem eX7_load_2 : decode mX7_load.2.1 2 = .ok (.invokevirtual 180, 3) := by decide +kernel
theorem eX7_load_5 : decode mX7_load.2.1 5 = .ok (.aload_n 0, 1) := by decide +kernel
theorem eX7_load_6 : decode mX7_load.2.1 6 = .ok (.getfield 168, 3) := by decide +kernel
theorem eX7_load_9 : decode mX7_load.2.1 9 = .ok (.aload_n 0, 1) := by decide +kernel
theorem eX7_load_10 : decode mX7_load.2.1 10 = .ok (.iload_n 1, 1) := by decide +kernel
theorem eX7_load_11 : decode mX7_load.2.1 11 = .ok (.invokevirtual 183, 3) := by decide +kernel
theorem eX7_load_14 : decode mX7_load.2.1 14 = .ok (.ifCond .eq 7, 3) := by decide +kernel
theorem eX7_load_17 : decode mX7_load.2.1 17 = .ok (.iconst 5, 1) := by decide +kernel
theorem eX7_load_18 : decode mX7_load.2.1 18 = .ok (.goto 4, 3) := by decide +kernel
theorem eX7_load_21 : decode mX7_load.2.1 21 = .ok (.iconst 0, 1) := by decide +kernel
theorem eX7_load_22 : decode mX7_load.2.1 22 = .ok (.iadd, 1) := by decide +kernel
theorem eX7_load_23 : decode mX7_load.2.1 23 = .ok (.istore_n 2, 1) := by decide +kernel
theorem eX7_load_24 : decode mX7_load.2.1 24 = .ok (.aload_n 0, 1) := by decide +kernel
theorem eX7_load_25 : decode mX7_load.2.1 25 = .ok (.iload_n 1, 1) := by decide +kernel
theorem eX7_load_26 : decode mX7_load.2.1 26 = .ok (.iconst 0, 1) := by decide +kernel
theorem eX7_load_27 : decode mX7_load.2.1 27 = .ok (.invokevirtual 84, 3) := by decide +kernel
theorem eX7_load_30 : decode mX7_load.2.1 30 = .ok (.tableswitch 129 1 6 #[38, 50, 57, 59, 90, 109], 38) := by decide +kernel
theorem eX7_load_68 : decode mX7_load.2.1 68 = .ok (.aload_n 0, 1) := by decide +kernel
theorem eX7_load_69 : decode mX7_load.2.1 69 = .ok (.getfield 168, 3) := by decide +kernel
theorem eX7_load_72 : decode mX7_load.2.1 72 = .ok (.aload_n 0, 1) := by decide +kernel
theorem eX7_load_73 : decode mX7_load.2.1 73 = .ok (.iload_n 1, 1) := by decide +kernel
theorem eX7_load_74 : decode mX7_load.2.1 74 = .ok (.iconst 1, 1) := by decide +kernel
theorem eX7_load_75 : decode mX7_load.2.1 75 = .ok (.invokevirtual 84, 3) := by decide +kernel
theorem eX7_load_78 : decode mX7_load.2.1 78 = .ok (.iadd, 1) := by decide +kernel
theorem eX7_load_79 : decode mX7_load.2.1 79 = .ok (.ireturn, 1) := by decide +kernel
theorem eX7_load_80 : decode mX7_load.2.1 80 = .ok (.aload_n 0, 1) := by decide +kernel
theorem eX7_load_81 : decode mX7_load.2.1 81 = .ok (.getfield 168, 3) := by decide +kernel
theorem eX7_load_84 : decode mX7_load.2.1 84 = .ok (.iconst 2, 1) := by decide +kernel
theorem eX7_load_85 : decode mX7_load.2.1 85 = .ok (.idiv, 1) := by decide +kernel
theorem eX7_load_86 : decode mX7_load.2.1 86 = .ok (.ireturn, 1) := by decide +kernel
theorem eX7_load_87 : decode mX7_load.2.1 87 = .ok (.iload_n 2, 1) := by decide +kernel
theorem eX7_load_88 : decode mX7_load.2.1 88 = .ok (.ireturn, 1) := by decide +kernel
theorem eX7_load_89 : decode mX7_load.2.1 89 = .ok (.aload_n 0, 1) := by decide +kernel
theorem eX7_load_90 : decode mX7_load.2.1 90 = .ok (.iload_n 1, 1) := by decide +kernel
theorem eX7_load_91 : decode mX7_load.2.1 91 = .ok (.iconst 4, 1) := by decide +kernel
theorem eX7_load_92 : decode mX7_load.2.1 92 = .ok (.invokevirtual 84, 3) := by decide +kernel
theorem eX7_load_95 : decode mX7_load.2.1 95 = .ok (.aload_n 0, 1) := by decide +kernel
theorem eX7_load_96 : decode mX7_load.2.1 96 = .ok (.iload_n 1, 1) := by decide +kernel
theorem eX7_load_97 : decode mX7_load.2.1 97 = .ok (.iconst 1, 1) := by decide +kernel
theorem eX7_load_98 : decode mX7_load.2.1 98 = .ok (.invokevirtual 84, 3) := by decide +kernel
theorem eX7_load_101 : decode mX7_load.2.1 101 = .ok (.if_icmp .ge 7, 3) := by decide +kernel
theorem eX7_load_104 : decode mX7_load.2.1 104 = .ok (.iconst 0, 1) := by decide +kernel
theorem eX7_load_105 : decode mX7_load.2.1 105 = .ok (.goto 14, 3) := by decide +kernel
theorem eX7_load_108 : decode mX7_load.2.1 108 = .ok (.aload_n 0, 1) := by decide +kernel
theorem eX7_load_109 : decode mX7_load.2.1 109 = .ok (.getfield 168, 3) := by decide +kernel
theorem eX7_load_112 : decode mX7_load.2.1 112 = .ok (.aload_n 0, 1) := by decide +kernel
theorem eX7_load_113 : decode mX7_load.2.1 113 = .ok (.iload_n 1, 1) := by decide +kernel
theorem eX7_load_114 : decode mX7_load.2.1 114 = .ok (.iconst 1, 1) := by decide +kernel
theorem eX7_load_115 : decode mX7_load.2.1 115 = .ok (.invokevirtual 84, 3) := by decide +kernel
theorem eX7_load_118 : decode mX7_load.2.1 118 = .ok (.iadd, 1) := by decide +kernel
theorem eX7_load_119 : decode mX7_load.2.1 119 = .ok (.ireturn, 1) := by decide +kernel
theorem eX7_load_120 : decode mX7_load.2.1 120 = .ok (.aload_n 0, 1) := by decide +kernel
theorem eX7_load_121 : decode mX7_load.2.1 121 = .ok (.getfield 168, 3) := by decide +kernel
theorem eX7_load_124 : decode mX7_load.2.1 124 = .ok (.iconst 2, 1) := by decide +kernel
theorem eX7_load_125 : decode mX7_load.2.1 125 = .ok (.idiv, 1) := by decide +kernel
theorem eX7_load_126 : decode mX7_load.2.1 126 = .ok (.bipush 9, 2) := by decide +kernel
theorem eX7_load_128 : decode mX7_load.2.1 128 = .ok (.aload_n 0, 1) := by decide +kernel
theorem eX7_load_129 : decode mX7_load.2.1 129 = .ok (.iload_n 1, 1) := by decide +kernel
theorem eX7_load_130 : decode mX7_load.2.1 130 = .ok (.iconst 4, 1) := by decide +kernel
theorem eX7_load_131 : decode mX7_load.2.1 131 = .ok (.invokevirtual 84, 3) := by decide +kernel
theorem eX7_load_134 : decode mX7_load.2.1 134 = .ok (.invokestatic 186, 3) := by decide +kernel
theorem eX7_load_137 : decode mX7_load.2.1 137 = .ok (.iadd, 1) := by decide +kernel
theorem eX7_load_138 : decode mX7_load.2.1 138 = .ok (.ireturn, 1) := by decide +kernel
theorem eX7_load_139 : decode mX7_load.2.1 139 = .ok (.iload_n 2, 1) := by decide +kernel
theorem eX7_load_140 : decode mX7_load.2.1 140 = .ok (.aload_n 0, 1) := by decide +kernel
theorem eX7_load_141 : decode mX7_load.2.1 141 = .ok (.iload_n 1, 1) := by decide +kernel
theorem eX7_load_142 : decode mX7_load.2.1 142 = .ok (.bipush 6, 2) := by decide +kernel
theorem eX7_load_144 : decode mX7_load.2.1 144 = .ok (.aload_n 0, 1) := by decide +kernel
theorem eX7_load_145 : decode mX7_load.2.1 145 = .ok (.getfield 15, 3) := by decide +kernel
theorem eX7_load_148 : decode mX7_load.2.1 148 = .ok (.bipush 67, 2) := by decide +kernel
theorem eX7_load_150 : decode mX7_load.2.1 150 = .ok (.iaload, 1) := by decide +kernel
theorem eX7_load_151 : decode mX7_load.2.1 151 = .ok (.iconst 4, 1) := by decide +kernel
theorem eX7_load_152 : decode mX7_load.2.1 152 = .ok (.irem, 1) := by decide +kernel
theorem eX7_load_153 : decode mX7_load.2.1 153 = .ok (.iadd, 1) := by decide +kernel
theorem eX7_load_154 : decode mX7_load.2.1 154 = .ok (.invokevirtual 84, 3) := by decide +kernel
theorem eX7_load_157 : decode mX7_load.2.1 157 = .ok (.iadd, 1) := by decide +kernel
theorem eX7_load_158 : decode mX7_load.2.1 158 = .ok (.ireturn, 1) := by decide +kernel
theorem eX7_load_159 : decode mX7_load.2.1 159 = .ok (.aload_n 0, 1) := by decide +kernel
theorem eX7_load_160 : decode mX7_load.2.1 160 = .ok (.getfield 168, 3) := by decide +kernel
theorem eX7_load_163 : decode mX7_load.2.1 163 = .ok (.ireturn, 1) := by decide +kernel
theorem c_X7_load (hk : MK n g U U1) (hM : MAt h u U1) (hz : mZ U) (hg : gOk g m t) {i : Nat} (hi : i < 6) (hd : 21 ≤ d) : Ct l G mX7_load yX7_load d 0 0 [.ref u, .int (nI i)] h (fun r h' => r = some (.int (lod (mRd U) g m t i)) ∧ ∃ U', MAt h' u U' ∧ MK n g U U' ∧ Same u 19 h h') := by
  refine ct_of (lv := [some (.ref u), some (.int (nI i)), none]) (by decide +kernel) rfl (fun z => by cases z) (fun _ => rfl) (fun _ => Nat.le_of_ble_eq_true rfl) ?_
  have e := hk.1
  subst e
  obtain ⟨hm, hm6, ht, ht2, hgq⟩ := hg
  refine aw_aload_n (pc' := 1) eX7_load_0 rfl rfl trivial ?_
  refine aw_iload_n (pc' := 2) eX7_load_1 rfl rfl ?_
  refine aw_callv (pc' := 5) (nn := 1) (c_X7_readFor (d := d - 1) hM (i := i) (by omega) (hz.k hk) hgq (by omega)) eX7_load_2 rfl ⟨q909, q912, q62⟩ q911 q24 ⟨rfl, by decide +kernel, by decide +kernel, by decide +kernel⟩ rfl (by rw [hM.2.1]; exact ⟨rfl, rfl⟩) rfl ⟨by omega, by decide⟩ ⟨by omega, by omega⟩ rfl (Nat.le_of_ble_eq_true rfl) (fun v3 h4 hq5 => ?_)
  obtain ⟨rfl, U2, hM1, k2, e14, e15, hs2⟩ := hq5
  dsimp only [Option.toList, List.cons_append, List.nil_append]
  refine aw_aload_n (pc' := 6) eX7_load_5 rfl rfl trivial ?_
  refine aw_Mint (pc' := 9) (kf := 14) hM1 eX7_load_6 rfl (by decide) q803 ?_
  refine aw_aload_n (pc' := 10) eX7_load_9 rfl rfl trivial ?_
  refine aw_iload_n (pc' := 11) eX7_load_10 rfl rfl ?_
  refine aw_callv (pc' := 14) (nn := 1) (c_X7_isAnotherTwin (d := d - 1) hM1 (m := m) (i := i) (by rw [k2.1]; exact hm) hm6 hi (by omega)) eX7_load_11 rfl ⟨q953, q956, q62⟩ q955 q35 ⟨rfl, by decide +kernel, by decide +kernel, by decide +kernel⟩ rfl (by rw [hM1.2.1]; exact ⟨rfl, rfl⟩) rfl ⟨by omega, by decide⟩ ⟨by omega, by omega⟩ rfl (Nat.le_of_ble_eq_true rfl) (fun v6 h7 hq8 => ?_)
  obtain ⟨rfl, rfl⟩ := hq8
  dsimp only [Option.toList, List.cons_append, List.nil_append]
  refine aw_if_eq (pc' := 17) (tgt := 21) eX7_load_14 rfl (by decide) (fun c_14 => ?_) (fun c_14 => ?_)
  · refine aw_iconst (pc' := 22) (v := 0) eX7_load_21 rfl (by decide) ?_
    refine aw_iadd (pc' := 23) eX7_load_22 rfl ?_
    refine aw_istore_n (pc' := 24) eX7_load_23 rfl (by decide) ?_
    dsimp only [zst, zst2, zcut]
    refine aw_aload_n (pc' := 25) eX7_load_24 rfl rfl trivial ?_
    refine aw_iload_n (pc' := 26) eX7_load_25 rfl rfl ?_
    refine aw_iconst (pc' := 27) (v := 0) eX7_load_26 rfl (by decide) ?_
    refine aw_callv (pc' := 30) (nn := 2) (c_one (d := d - 1) hM1 i 0 (by omega) (by omega)) eX7_load_27 rfl ⟨q901, q904, q62⟩ q903 q22 ⟨rfl, by decide +kernel, by decide +kernel, by decide +kernel⟩ rfl (by rw [hM1.2.1]; exact ⟨rfl, rfl⟩) rfl ⟨by omega, by decide⟩ ⟨by omega, by omega⟩ rfl (Nat.le_of_ble_eq_true rfl) (fun v9 h10 hq11 => ?_)
    obtain ⟨rfl, rfl⟩ := hq11
    dsimp only [Option.toList, List.cons_append, List.nil_append]
    refine aw_tsw (v := 1) (tgt := 68) eX7_load_30 (by decide) (by decide) rfl (by decide) (fun c_30 => ?_) (fun n_30_0 => ?_)
    · refine aw_aload_n (pc' := 69) eX7_load_68 rfl rfl trivial ?_
      refine aw_Mint (pc' := 72) (kf := 14) hM1 eX7_load_69 rfl (by decide) q803 ?_
      refine aw_aload_n (pc' := 73) eX7_load_72 rfl rfl trivial ?_
      refine aw_iload_n (pc' := 74) eX7_load_73 rfl rfl ?_
      refine aw_iconst (pc' := 75) (v := 1) eX7_load_74 rfl (by decide) ?_
      refine aw_callv (pc' := 78) (nn := 2) (c_one (d := d - 1) hM1 i 1 (by omega) (by omega)) eX7_load_75 rfl ⟨q901, q904, q62⟩ q903 q22 ⟨rfl, by decide +kernel, by decide +kernel, by decide +kernel⟩ rfl (by rw [hM1.2.1]; exact ⟨rfl, rfl⟩) rfl ⟨by omega, by decide⟩ ⟨by omega, by omega⟩ rfl (Nat.le_of_ble_eq_true rfl) (fun v12 h13 hq14 => ?_)
      obtain ⟨rfl, rfl⟩ := hq14
      dsimp only [Option.toList, List.cons_append, List.nil_append]
      refine aw_iadd (pc' := 79) eX7_load_78 rfl ?_
      refine aw_ret (v := some (.int _)) eX7_load_79 ⟨rfl, rfl⟩ (by omega) (by omega) rfl ?_
      simp only [zb_eq0, Bool.not_eq_false, Bool.not_eq_true, decide_eq_true_eq, decide_eq_false_iff_not, Decidable.not_not, k2.1] at c_14
      simp only [k2.1, Nat.add_zero] at c_30
      refine ⟨?_, U2, hM1, hk.tr (k2.le (Nat.zero_le n)), hs2⟩
      try simp only [e14, k2.1, mRd_k hk]
      simp [lod, sLoad, c_14, c_30]
    refine aw_tsw (v := 2) (tgt := 80) eX7_load_30 (by decide) (by decide) rfl (by decide) (fun c_30 => ?_) (fun n_30_1 => ?_)
    · refine aw_aload_n (pc' := 81) eX7_load_80 rfl rfl trivial ?_
      refine aw_Mint (pc' := 84) (kf := 14) hM1 eX7_load_81 rfl (by decide) q803 ?_
      refine aw_iconst (pc' := 85) (v := 2) eX7_load_84 rfl (by decide) ?_
      refine aw_idiv (pc' := 86) eX7_load_85 rfl (by decide) ?_
      refine aw_ret (v := some (.int _)) eX7_load_86 ⟨rfl, rfl⟩ (by omega) (by omega) rfl ?_
      simp only [zb_eq0, Bool.not_eq_false, Bool.not_eq_true, decide_eq_true_eq, decide_eq_false_iff_not, Decidable.not_not, k2.1] at c_14
      simp only [k2.1, Nat.add_zero] at c_30
      simp only [k2.1, Nat.add_zero] at n_30_0
      refine ⟨?_, U2, hM1, hk.tr (k2.le (Nat.zero_le n)), hs2⟩
      try simp only [e14, k2.1, mRd_k hk]
      simp [lod, sLoad, c_14, c_30, n_30_0]
    refine aw_tsw (v := 3) (tgt := 87) eX7_load_30 (by decide) (by decide) rfl (by decide) (fun c_30 => ?_) (fun n_30_2 => ?_)
    · refine aw_iload_n (pc' := 88) eX7_load_87 rfl rfl ?_
      refine aw_ret (v := some (.int _)) eX7_load_88 ⟨rfl, rfl⟩ (by omega) (by omega) rfl ?_
      simp only [zb_eq0, Bool.not_eq_false, Bool.not_eq_true, decide_eq_true_eq, decide_eq_false_iff_not, Decidable.not_not, k2.1] at c_14
      simp only [k2.1, Nat.add_zero] at c_30
      simp only [k2.1, Nat.add_zero] at n_30_0
      simp only [k2.1, Nat.add_zero] at n_30_1
      refine ⟨?_, U2, hM1, hk.tr (k2.le (Nat.zero_le n)), hs2⟩
      try simp only [e14, k2.1, mRd_k hk]
      simp [lod, sLoad, c_14, c_30, n_30_0, n_30_1]
    refine aw_tsw (v := 4) (tgt := 89) eX7_load_30 (by decide) (by decide) rfl (by decide) (fun c_30 => ?_) (fun n_30_3 => ?_)
    · refine aw_aload_n (pc' := 90) eX7_load_89 rfl rfl trivial ?_
      refine aw_iload_n (pc' := 91) eX7_load_90 rfl rfl ?_
      refine aw_iconst (pc' := 92) (v := 4) eX7_load_91 rfl (by decide) ?_
      refine aw_callv (pc' := 95) (nn := 2) (c_one (d := d - 1) hM1 i 4 (by omega) (by omega)) eX7_load_92 rfl ⟨q901, q904, q62⟩ q903 q22 ⟨rfl, by decide +kernel, by decide +kernel, by decide +kernel⟩ rfl (by rw [hM1.2.1]; exact ⟨rfl, rfl⟩) rfl ⟨by omega, by decide⟩ ⟨by omega, by omega⟩ rfl (Nat.le_of_ble_eq_true rfl) (fun v15 h16 hq17 => ?_)
      obtain ⟨rfl, rfl⟩ := hq17
      dsimp only [Option.toList, List.cons_append, List.nil_append]
      refine aw_aload_n (pc' := 96) eX7_load_95 rfl rfl trivial ?_
      refine aw_iload_n (pc' := 97) eX7_load_96 rfl rfl ?_
      refine aw_iconst (pc' := 98) (v := 1) eX7_load_97 rfl (by decide) ?_
      refine aw_callv (pc' := 101) (nn := 2) (c_one (d := d - 1) hM1 i 1 (by omega) (by omega)) eX7_load_98 rfl ⟨q901, q904, q62⟩ q903 q22 ⟨rfl, by decide +kernel, by decide +kernel, by decide +kernel⟩ rfl (by rw [hM1.2.1]; exact ⟨rfl, rfl⟩) rfl ⟨by omega, by decide⟩ ⟨by omega, by omega⟩ rfl (Nat.le_of_ble_eq_true rfl) (fun v18 h19 hq20 => ?_)
      obtain ⟨rfl, rfl⟩ := hq20
      dsimp only [Option.toList, List.cons_append, List.nil_append]
      refine aw_icmp_ge (pc' := 104) (tgt := 108) eX7_load_101 rfl (by decide) (fun c_101 => ?_) (fun c_101 => ?_)
      · refine aw_aload_n (pc' := 109) eX7_load_108 rfl rfl trivial ?_
        refine aw_Mint (pc' := 112) (kf := 14) hM1 eX7_load_109 rfl (by decide) q803 ?_
        refine aw_aload_n (pc' := 113) eX7_load_112 rfl rfl trivial ?_
        refine aw_iload_n (pc' := 114) eX7_load_113 rfl rfl ?_
        refine aw_iconst (pc' := 115) (v := 1) eX7_load_114 rfl (by decide) ?_
        refine aw_callv (pc' := 118) (nn := 2) (c_one (d := d - 1) hM1 i 1 (by omega) (by omega)) eX7_load_115 rfl ⟨q901, q904, q62⟩ q903 q22 ⟨rfl, by decide +kernel, by decide +kernel, by decide +kernel⟩ rfl (by rw [hM1.2.1]; exact ⟨rfl, rfl⟩) rfl ⟨by omega, by decide⟩ ⟨by omega, by omega⟩ rfl (Nat.le_of_ble_eq_true rfl) (fun v21 h22 hq23 => ?_)
        obtain ⟨rfl, rfl⟩ := hq23
        dsimp only [Option.toList, List.cons_append, List.nil_append]
        refine aw_iadd (pc' := 119) eX7_load_118 rfl ?_
        refine aw_ret (v := some (.int _)) eX7_load_119 ⟨rfl, rfl⟩ (by omega) (by omega) rfl ?_
        simp only [zb_eq0, Bool.not_eq_false, Bool.not_eq_true, decide_eq_true_eq, decide_eq_false_iff_not, Decidable.not_not, k2.1] at c_14
        simp only [k2.1, Nat.add_zero] at c_30
        simp only [k2.1, Nat.add_zero] at c_101
        simp only [k2.1, Nat.add_zero] at n_30_0
        simp only [k2.1, Nat.add_zero] at n_30_1
        simp only [k2.1, Nat.add_zero] at n_30_2
        refine ⟨?_, U2, hM1, hk.tr (k2.le (Nat.zero_le n)), hs2⟩
        try simp only [e14, k2.1, mRd_k hk]
        simp [lod, sLoad, c_14, c_30, c_101, n_30_0, n_30_1, n_30_2]
        try exact fun z => absurd z (Int32.not_lt.mpr c_101)
        try exact fun z => absurd (Int32.not_le.mp c_101) (Int32.not_lt.mpr z)
        try exact fun z => absurd z c_101
      · refine aw_iconst (pc' := 105) (v := 0) eX7_load_104 rfl (by decide) ?_
        refine aw_goto eX7_load_105 (by decide) (tgt := 119) ?_
        refine aw_ret (v := some (.int _)) eX7_load_119 ⟨rfl, rfl⟩ (by omega) (by omega) rfl ?_
        simp only [zb_eq0, Bool.not_eq_false, Bool.not_eq_true, decide_eq_true_eq, decide_eq_false_iff_not, Decidable.not_not, k2.1] at c_14
        simp only [k2.1, Nat.add_zero] at c_30
        simp only [k2.1, Nat.add_zero] at c_101
        simp only [k2.1, Nat.add_zero] at n_30_0
        simp only [k2.1, Nat.add_zero] at n_30_1
        simp only [k2.1, Nat.add_zero] at n_30_2
        refine ⟨?_, U2, hM1, hk.tr (k2.le (Nat.zero_le n)), hs2⟩
        try simp only [e14, k2.1, mRd_k hk]
        simp [lod, sLoad, c_14, c_30, c_101, n_30_0, n_30_1, n_30_2]
        try exact fun z => absurd z (Int32.not_lt.mpr c_101)
        try exact fun z => absurd (Int32.not_le.mp c_101) (Int32.not_lt.mpr z)
        try exact fun z => absurd z c_101
    refine aw_tsw (v := 5) (tgt := 120) eX7_load_30 (by decide) (by decide) rfl (by decide) (fun c_30 => ?_) (fun n_30_4 => ?_)
    · refine aw_aload_n (pc' := 121) eX7_load_120 rfl rfl trivial ?_
      refine aw_Mint (pc' := 124) (kf := 14) hM1 eX7_load_121 rfl (by decide) q803 ?_
      refine aw_iconst (pc' := 125) (v := 2) eX7_load_124 rfl (by decide) ?_
      refine aw_idiv (pc' := 126) eX7_load_125 rfl (by decide) ?_
      refine aw_bipush (pc' := 128) (v := 9) eX7_load_126 rfl (by decide) ?_
      refine aw_aload_n (pc' := 129) eX7_load_128 rfl rfl trivial ?_
      refine aw_iload_n (pc' := 130) eX7_load_129 rfl rfl ?_
      refine aw_iconst (pc' := 131) (v := 4) eX7_load_130 rfl (by decide) ?_
      refine aw_callv (pc' := 134) (nn := 2) (c_one (d := d - 1) hM1 i 4 (by omega) (by omega)) eX7_load_131 rfl ⟨q901, q904, q62⟩ q903 q22 ⟨rfl, by decide +kernel, by decide +kernel, by decide +kernel⟩ rfl (by rw [hM1.2.1]; exact ⟨rfl, rfl⟩) rfl ⟨by omega, by decide⟩ ⟨by omega, by omega⟩ rfl (Nat.le_of_ble_eq_true rfl) (fun v24 h25 hq26 => ?_)
      obtain ⟨rfl, rfl⟩ := hq26
      dsimp only [Option.toList, List.cons_append, List.nil_append]
      refine aw_mmin (pc' := 137) eX7_load_134 rfl q961 q326 q63 q327 (by omega) ⟨by omega, by omega⟩ (Nat.le_of_ble_eq_true rfl) ?_
      refine aw_iadd (pc' := 138) eX7_load_137 rfl ?_
      refine aw_ret (v := some (.int _)) eX7_load_138 ⟨rfl, rfl⟩ (by omega) (by omega) rfl ?_
      simp only [zb_eq0, Bool.not_eq_false, Bool.not_eq_true, decide_eq_true_eq, decide_eq_false_iff_not, Decidable.not_not, k2.1] at c_14
      simp only [k2.1, Nat.add_zero] at c_30
      simp only [k2.1, Nat.add_zero] at n_30_0
      simp only [k2.1, Nat.add_zero] at n_30_1
      simp only [k2.1, Nat.add_zero] at n_30_2
      simp only [k2.1, Nat.add_zero] at n_30_3
      refine ⟨?_, U2, hM1, hk.tr (k2.le (Nat.zero_le n)), hs2⟩
      try simp only [e14, k2.1, mRd_k hk]
      simp [lod, sLoad, c_14, c_30, n_30_0, n_30_1, n_30_2, n_30_3]
    refine aw_tsw (v := 6) (tgt := 139) eX7_load_30 (by decide) (by decide) rfl (by decide) (fun c_30 => ?_) (fun n_30_5 => ?_)
    · refine aw_iload_n (pc' := 140) eX7_load_139 rfl rfl ?_
      refine aw_aload_n (pc' := 141) eX7_load_140 rfl rfl trivial ?_
      refine aw_iload_n (pc' := 142) eX7_load_141 rfl rfl ?_
      refine aw_bipush (pc' := 144) (v := 6) eX7_load_142 rfl (by decide) ?_
      refine aw_aload_n (pc' := 145) eX7_load_144 rfl rfl trivial ?_
      refine aw_Mref (pc' := 148) (kf := 0) 1 hM1 eX7_load_145 rfl (by decide) rfl q789 ?_
      refine aw_bipush (pc' := 150) (v := 67) eX7_load_148 rfl (by decide) ?_
      refine aw_MaldC (pc' := 151) 1 67 hM1 eX7_load_150 rfl (by decide) (by unfold vp_in; decide) (by decide) ?_
      refine aw_iconst (pc' := 152) (v := 4) eX7_load_151 rfl (by decide) ?_
      refine aw_irem (pc' := 153) eX7_load_152 rfl (by decide) ?_
      have e4 : U2.1 1 67 - U2.1 1 67 / 4 * 4 = nI (t % 4) := by rw [k2.1, ht]; exact pk_rem (d := 4) (by omega) (by omega) (by omega)
      rw [e4]
      refine aw_iadd (pc' := 154) eX7_load_153 rfl ?_
      rw [show (6 : Int32) + nI (t % 4) = nI (6 + t % 4) from nI_add 6 _]
      refine aw_callv (pc' := 157) (nn := 2) (c_one (d := d - 1) hM1 i (6 + t % 4) (by omega) (by omega)) eX7_load_154 rfl ⟨q901, q904, q62⟩ q903 q22 ⟨rfl, by decide +kernel, by decide +kernel, by decide +kernel⟩ rfl (by rw [hM1.2.1]; exact ⟨rfl, rfl⟩) rfl ⟨by omega, by decide⟩ ⟨by omega, by omega⟩ rfl (Nat.le_of_ble_eq_true rfl) (fun v27 h28 hq29 => ?_)
      obtain ⟨rfl, rfl⟩ := hq29
      dsimp only [Option.toList, List.cons_append, List.nil_append]
      refine aw_iadd (pc' := 158) eX7_load_157 rfl ?_
      refine aw_ret (v := some (.int _)) eX7_load_158 ⟨rfl, rfl⟩ (by omega) (by omega) rfl ?_
      simp only [zb_eq0, Bool.not_eq_false, Bool.not_eq_true, decide_eq_true_eq, decide_eq_false_iff_not, Decidable.not_not, k2.1] at c_14
      simp only [k2.1, Nat.add_zero] at c_30
      simp only [k2.1, Nat.add_zero] at n_30_0
      simp only [k2.1, Nat.add_zero] at n_30_1
      simp only [k2.1, Nat.add_zero] at n_30_2
      simp only [k2.1, Nat.add_zero] at n_30_3
      simp only [k2.1, Nat.add_zero] at n_30_4
      refine ⟨?_, U2, hM1, hk.tr (k2.le (Nat.zero_le n)), hs2⟩
      try simp only [e14, k2.1, mRd_k hk]
      simp [lod, sLoad, c_14, c_30, n_30_0, n_30_1, n_30_2, n_30_3, n_30_4]
    refine aw_tswo (tgt := 159) eX7_load_30 (by have g0 := zne n_30_0 (show ((1 : Int32)).toInt = 1 by decide); have g1 := zne n_30_1 (show ((2 : Int32)).toInt = 2 by decide); have g2 := zne n_30_2 (show ((3 : Int32)).toInt = 3 by decide); have g3 := zne n_30_3 (show ((4 : Int32)).toInt = 4 by decide); have g4 := zne n_30_4 (show ((5 : Int32)).toInt = 5 by decide); have g5 := zne n_30_5 (show ((6 : Int32)).toInt = 6 by decide); omega) (by decide) ?_
    refine aw_aload_n (pc' := 160) eX7_load_159 rfl rfl trivial ?_
    refine aw_Mint (pc' := 163) (kf := 14) hM1 eX7_load_160 rfl (by decide) q803 ?_
    refine aw_ret (v := some (.int _)) eX7_load_163 ⟨rfl, rfl⟩ (by omega) (by omega) rfl ?_
    simp only [zb_eq0, Bool.not_eq_false, Bool.not_eq_true, decide_eq_true_eq, decide_eq_false_iff_not, Decidable.not_not, k2.1] at c_14
    simp only [k2.1, Nat.add_zero] at n_30_0
    simp only [k2.1, Nat.add_zero] at n_30_1
    simp only [k2.1, Nat.add_zero] at n_30_2
    simp only [k2.1, Nat.add_zero] at n_30_3
    simp only [k2.1, Nat.add_zero] at n_30_4
    simp only [k2.1, Nat.add_zero] at n_30_5
    refine ⟨?_, U2, hM1, hk.tr (k2.le (Nat.zero_le n)), hs2⟩
    try simp only [e14, k2.1, mRd_k hk]
    simp [lod, sLoad, c_14, n_30_0, n_30_1, n_30_2, n_30_3, n_30_4, n_30_5]
  · refine aw_iconst (pc' := 18) (v := 5) eX7_load_17 rfl (by decide) ?_
    refine aw_goto eX7_load_18 (by decide) (tgt := 22) ?_
    refine aw_iadd (pc' := 23) eX7_load_22 rfl ?_
    refine aw_istore_n (pc' := 24) eX7_load_23 rfl (by decide) ?_
    dsimp only [zst, zst2, zcut]
    refine aw_aload_n (pc' := 25) eX7_load_24 rfl rfl trivial ?_
    refine aw_iload_n (pc' := 26) eX7_load_25 rfl rfl ?_
    refine aw_iconst (pc' := 27) (v := 0) eX7_load_26 rfl (by decide) ?_
    refine aw_callv (pc' := 30) (nn := 2) (c_one (d := d - 1) hM1 i 0 (by omega) (by omega)) eX7_load_27 rfl ⟨q901, q904, q62⟩ q903 q22 ⟨rfl, by decide +kernel, by decide +kernel, by decide +kernel⟩ rfl (by rw [hM1.2.1]; exact ⟨rfl, rfl⟩) rfl ⟨by omega, by decide⟩ ⟨by omega, by omega⟩ rfl (Nat.le_of_ble_eq_true rfl) (fun v30 h31 hq32 => ?_)
    obtain ⟨rfl, rfl⟩ := hq32
    dsimp only [Option.toList, List.cons_append, List.nil_append]
    refine aw_tsw (v := 1) (tgt := 68) eX7_load_30 (by decide) (by decide) rfl (by decide) (fun c_30 => ?_) (fun n_30_0 => ?_)
    · refine aw_aload_n (pc' := 69) eX7_load_68 rfl rfl trivial ?_
      refine aw_Mint (pc' := 72) (kf := 14) hM1 eX7_load_69 rfl (by decide) q803 ?_
      refine aw_aload_n (pc' := 73) eX7_load_72 rfl rfl trivial ?_
      refine aw_iload_n (pc' := 74) eX7_load_73 rfl rfl ?_
      refine aw_iconst (pc' := 75) (v := 1) eX7_load_74 rfl (by decide) ?_
      refine aw_callv (pc' := 78) (nn := 2) (c_one (d := d - 1) hM1 i 1 (by omega) (by omega)) eX7_load_75 rfl ⟨q901, q904, q62⟩ q903 q22 ⟨rfl, by decide +kernel, by decide +kernel, by decide +kernel⟩ rfl (by rw [hM1.2.1]; exact ⟨rfl, rfl⟩) rfl ⟨by omega, by decide⟩ ⟨by omega, by omega⟩ rfl (Nat.le_of_ble_eq_true rfl) (fun v33 h34 hq35 => ?_)
      obtain ⟨rfl, rfl⟩ := hq35
      dsimp only [Option.toList, List.cons_append, List.nil_append]
      refine aw_iadd (pc' := 79) eX7_load_78 rfl ?_
      refine aw_ret (v := some (.int _)) eX7_load_79 ⟨rfl, rfl⟩ (by omega) (by omega) rfl ?_
      simp only [zb_eq0, Bool.not_eq_false, Bool.not_eq_true, decide_eq_true_eq, decide_eq_false_iff_not, Decidable.not_not, k2.1] at c_14
      simp only [k2.1, Nat.add_zero] at c_30
      refine ⟨?_, U2, hM1, hk.tr (k2.le (Nat.zero_le n)), hs2⟩
      try simp only [e14, k2.1, mRd_k hk]
      simp [lod, sLoad, c_14, c_30]
    refine aw_tsw (v := 2) (tgt := 80) eX7_load_30 (by decide) (by decide) rfl (by decide) (fun c_30 => ?_) (fun n_30_1 => ?_)
    · refine aw_aload_n (pc' := 81) eX7_load_80 rfl rfl trivial ?_
      refine aw_Mint (pc' := 84) (kf := 14) hM1 eX7_load_81 rfl (by decide) q803 ?_
      refine aw_iconst (pc' := 85) (v := 2) eX7_load_84 rfl (by decide) ?_
      refine aw_idiv (pc' := 86) eX7_load_85 rfl (by decide) ?_
      refine aw_ret (v := some (.int _)) eX7_load_86 ⟨rfl, rfl⟩ (by omega) (by omega) rfl ?_
      simp only [zb_eq0, Bool.not_eq_false, Bool.not_eq_true, decide_eq_true_eq, decide_eq_false_iff_not, Decidable.not_not, k2.1] at c_14
      simp only [k2.1, Nat.add_zero] at c_30
      simp only [k2.1, Nat.add_zero] at n_30_0
      refine ⟨?_, U2, hM1, hk.tr (k2.le (Nat.zero_le n)), hs2⟩
      try simp only [e14, k2.1, mRd_k hk]
      simp [lod, sLoad, c_14, c_30, n_30_0]
    refine aw_tsw (v := 3) (tgt := 87) eX7_load_30 (by decide) (by decide) rfl (by decide) (fun c_30 => ?_) (fun n_30_2 => ?_)
    · refine aw_iload_n (pc' := 88) eX7_load_87 rfl rfl ?_
      refine aw_ret (v := some (.int _)) eX7_load_88 ⟨rfl, rfl⟩ (by omega) (by omega) rfl ?_
      simp only [zb_eq0, Bool.not_eq_false, Bool.not_eq_true, decide_eq_true_eq, decide_eq_false_iff_not, Decidable.not_not, k2.1] at c_14
      simp only [k2.1, Nat.add_zero] at c_30
      simp only [k2.1, Nat.add_zero] at n_30_0
      simp only [k2.1, Nat.add_zero] at n_30_1
      refine ⟨?_, U2, hM1, hk.tr (k2.le (Nat.zero_le n)), hs2⟩
      try simp only [e14, k2.1, mRd_k hk]
      simp [lod, sLoad, c_14, c_30, n_30_0, n_30_1]
    refine aw_tsw (v := 4) (tgt := 89) eX7_load_30 (by decide) (by decide) rfl (by decide) (fun c_30 => ?_) (fun n_30_3 => ?_)
    · refine aw_aload_n (pc' := 90) eX7_load_89 rfl rfl trivial ?_
      refine aw_iload_n (pc' := 91) eX7_load_90 rfl rfl ?_
      refine aw_iconst (pc' := 92) (v := 4) eX7_load_91 rfl (by decide) ?_
      refine aw_callv (pc' := 95) (nn := 2) (c_one (d := d - 1) hM1 i 4 (by omega) (by omega)) eX7_load_92 rfl ⟨q901, q904, q62⟩ q903 q22 ⟨rfl, by decide +kernel, by decide +kernel, by decide +kernel⟩ rfl (by rw [hM1.2.1]; exact ⟨rfl, rfl⟩) rfl ⟨by omega, by decide⟩ ⟨by omega, by omega⟩ rfl (Nat.le_of_ble_eq_true rfl) (fun v36 h37 hq38 => ?_)
      obtain ⟨rfl, rfl⟩ := hq38
      dsimp only [Option.toList, List.cons_append, List.nil_append]
      refine aw_aload_n (pc' := 96) eX7_load_95 rfl rfl trivial ?_
      refine aw_iload_n (pc' := 97) eX7_load_96 rfl rfl ?_
      refine aw_iconst (pc' := 98) (v := 1) eX7_load_97 rfl (by decide) ?_
      refine aw_callv (pc' := 101) (nn := 2) (c_one (d := d - 1) hM1 i 1 (by omega) (by omega)) eX7_load_98 rfl ⟨q901, q904, q62⟩ q903 q22 ⟨rfl, by decide +kernel, by decide +kernel, by decide +kernel⟩ rfl (by rw [hM1.2.1]; exact ⟨rfl, rfl⟩) rfl ⟨by omega, by decide⟩ ⟨by omega, by omega⟩ rfl (Nat.le_of_ble_eq_true rfl) (fun v39 h40 hq41 => ?_)
      obtain ⟨rfl, rfl⟩ := hq41
      dsimp only [Option.toList, List.cons_append, List.nil_append]
      refine aw_icmp_ge (pc' := 104) (tgt := 108) eX7_load_101 rfl (by decide) (fun c_101 => ?_) (fun c_101 => ?_)
      · refine aw_aload_n (pc' := 109) eX7_load_108 rfl rfl trivial ?_
        refine aw_Mint (pc' := 112) (kf := 14) hM1 eX7_load_109 rfl (by decide) q803 ?_
        refine aw_aload_n (pc' := 113) eX7_load_112 rfl rfl trivial ?_
        refine aw_iload_n (pc' := 114) eX7_load_113 rfl rfl ?_
        refine aw_iconst (pc' := 115) (v := 1) eX7_load_114 rfl (by decide) ?_
        refine aw_callv (pc' := 118) (nn := 2) (c_one (d := d - 1) hM1 i 1 (by omega) (by omega)) eX7_load_115 rfl ⟨q901, q904, q62⟩ q903 q22 ⟨rfl, by decide +kernel, by decide +kernel, by decide +kernel⟩ rfl (by rw [hM1.2.1]; exact ⟨rfl, rfl⟩) rfl ⟨by omega, by decide⟩ ⟨by omega, by omega⟩ rfl (Nat.le_of_ble_eq_true rfl) (fun v42 h43 hq44 => ?_)
        obtain ⟨rfl, rfl⟩ := hq44
        dsimp only [Option.toList, List.cons_append, List.nil_append]
        refine aw_iadd (pc' := 119) eX7_load_118 rfl ?_
        refine aw_ret (v := some (.int _)) eX7_load_119 ⟨rfl, rfl⟩ (by omega) (by omega) rfl ?_
        simp only [zb_eq0, Bool.not_eq_false, Bool.not_eq_true, decide_eq_true_eq, decide_eq_false_iff_not, Decidable.not_not, k2.1] at c_14
        simp only [k2.1, Nat.add_zero] at c_30
        simp only [k2.1, Nat.add_zero] at c_101
        simp only [k2.1, Nat.add_zero] at n_30_0
        simp only [k2.1, Nat.add_zero] at n_30_1
        simp only [k2.1, Nat.add_zero] at n_30_2
        refine ⟨?_, U2, hM1, hk.tr (k2.le (Nat.zero_le n)), hs2⟩
        try simp only [e14, k2.1, mRd_k hk]
        simp [lod, sLoad, c_14, c_30, c_101, n_30_0, n_30_1, n_30_2]
        try exact fun z => absurd z (Int32.not_lt.mpr c_101)
        try exact fun z => absurd (Int32.not_le.mp c_101) (Int32.not_lt.mpr z)
        try exact fun z => absurd z c_101
      · refine aw_iconst (pc' := 105) (v := 0) eX7_load_104 rfl (by decide) ?_
        refine aw_goto eX7_load_105 (by decide) (tgt := 119) ?_
        refine aw_ret (v := some (.int _)) eX7_load_119 ⟨rfl, rfl⟩ (by omega) (by omega) rfl ?_
        simp only [zb_eq0, Bool.not_eq_false, Bool.not_eq_true, decide_eq_true_eq, decide_eq_false_iff_not, Decidable.not_not, k2.1] at c_14
        simp only [k2.1, Nat.add_zero] at c_30
        simp only [k2.1, Nat.add_zero] at c_101
        simp only [k2.1, Nat.add_zero] at n_30_0
        simp only [k2.1, Nat.add_zero] at n_30_1
        simp only [k2.1, Nat.add_zero] at n_30_2
        refine ⟨?_, U2, hM1, hk.tr (k2.le (Nat.zero_le n)), hs2⟩
        try simp only [e14, k2.1, mRd_k hk]
        simp [lod, sLoad, c_14, c_30, c_101, n_30_0, n_30_1, n_30_2]
        try exact fun z => absurd z (Int32.not_lt.mpr c_101)
        try exact fun z => absurd (Int32.not_le.mp c_101) (Int32.not_lt.mpr z)
        try exact fun z => absurd z c_101
    refine aw_tsw (v := 5) (tgt := 120) eX7_load_30 (by decide) (by decide) rfl (by decide) (fun c_30 => ?_) (fun n_30_4 => ?_)
    · refine aw_aload_n (pc' := 121) eX7_load_120 rfl rfl trivial ?_
      refine aw_Mint (pc' := 124) (kf := 14) hM1 eX7_load_121 rfl (by decide) q803 ?_
      refine aw_iconst (pc' := 125) (v := 2) eX7_load_124 rfl (by decide) ?_
      refine aw_idiv (pc' := 126) eX7_load_125 rfl (by decide) ?_
      refine aw_bipush (pc' := 128) (v := 9) eX7_load_126 rfl (by decide) ?_
      refine aw_aload_n (pc' := 129) eX7_load_128 rfl rfl trivial ?_
      refine aw_iload_n (pc' := 130) eX7_load_129 rfl rfl ?_
      refine aw_iconst (pc' := 131) (v := 4) eX7_load_130 rfl (by decide) ?_
      refine aw_callv (pc' := 134) (nn := 2) (c_one (d := d - 1) hM1 i 4 (by omega) (by omega)) eX7_load_131 rfl ⟨q901, q904, q62⟩ q903 q22 ⟨rfl, by decide +kernel, by decide +kernel, by decide +kernel⟩ rfl (by rw [hM1.2.1]; exact ⟨rfl, rfl⟩) rfl ⟨by omega, by decide⟩ ⟨by omega, by omega⟩ rfl (Nat.le_of_ble_eq_true rfl) (fun v45 h46 hq47 => ?_)
      obtain ⟨rfl, rfl⟩ := hq47
      dsimp only [Option.toList, List.cons_append, List.nil_append]
      refine aw_mmin (pc' := 137) eX7_load_134 rfl q961 q326 q63 q327 (by omega) ⟨by omega, by omega⟩ (Nat.le_of_ble_eq_true rfl) ?_
      refine aw_iadd (pc' := 138) eX7_load_137 rfl ?_
      refine aw_ret (v := some (.int _)) eX7_load_138 ⟨rfl, rfl⟩ (by omega) (by omega) rfl ?_
      simp only [zb_eq0, Bool.not_eq_false, Bool.not_eq_true, decide_eq_true_eq, decide_eq_false_iff_not, Decidable.not_not, k2.1] at c_14
      simp only [k2.1, Nat.add_zero] at c_30
      simp only [k2.1, Nat.add_zero] at n_30_0
      simp only [k2.1, Nat.add_zero] at n_30_1
      simp only [k2.1, Nat.add_zero] at n_30_2
      simp only [k2.1, Nat.add_zero] at n_30_3
      refine ⟨?_, U2, hM1, hk.tr (k2.le (Nat.zero_le n)), hs2⟩
      try simp only [e14, k2.1, mRd_k hk]
      simp [lod, sLoad, c_14, c_30, n_30_0, n_30_1, n_30_2, n_30_3]
    refine aw_tsw (v := 6) (tgt := 139) eX7_load_30 (by decide) (by decide) rfl (by decide) (fun c_30 => ?_) (fun n_30_5 => ?_)
    · refine aw_iload_n (pc' := 140) eX7_load_139 rfl rfl ?_
      refine aw_aload_n (pc' := 141) eX7_load_140 rfl rfl trivial ?_
      refine aw_iload_n (pc' := 142) eX7_load_141 rfl rfl ?_
      refine aw_bipush (pc' := 144) (v := 6) eX7_load_142 rfl (by decide) ?_
      refine aw_aload_n (pc' := 145) eX7_load_144 rfl rfl trivial ?_
      refine aw_Mref (pc' := 148) (kf := 0) 1 hM1 eX7_load_145 rfl (by decide) rfl q789 ?_
      refine aw_bipush (pc' := 150) (v := 67) eX7_load_148 rfl (by decide) ?_
      refine aw_MaldC (pc' := 151) 1 67 hM1 eX7_load_150 rfl (by decide) (by unfold vp_in; decide) (by decide) ?_
      refine aw_iconst (pc' := 152) (v := 4) eX7_load_151 rfl (by decide) ?_
      refine aw_irem (pc' := 153) eX7_load_152 rfl (by decide) ?_
      have e4 : U2.1 1 67 - U2.1 1 67 / 4 * 4 = nI (t % 4) := by rw [k2.1, ht]; exact pk_rem (d := 4) (by omega) (by omega) (by omega)
      rw [e4]
      refine aw_iadd (pc' := 154) eX7_load_153 rfl ?_
      rw [show (6 : Int32) + nI (t % 4) = nI (6 + t % 4) from nI_add 6 _]
      refine aw_callv (pc' := 157) (nn := 2) (c_one (d := d - 1) hM1 i (6 + t % 4) (by omega) (by omega)) eX7_load_154 rfl ⟨q901, q904, q62⟩ q903 q22 ⟨rfl, by decide +kernel, by decide +kernel, by decide +kernel⟩ rfl (by rw [hM1.2.1]; exact ⟨rfl, rfl⟩) rfl ⟨by omega, by decide⟩ ⟨by omega, by omega⟩ rfl (Nat.le_of_ble_eq_true rfl) (fun v48 h49 hq50 => ?_)
      obtain ⟨rfl, rfl⟩ := hq50
      dsimp only [Option.toList, List.cons_append, List.nil_append]
      refine aw_iadd (pc' := 158) eX7_load_157 rfl ?_
      refine aw_ret (v := some (.int _)) eX7_load_158 ⟨rfl, rfl⟩ (by omega) (by omega) rfl ?_
      simp only [zb_eq0, Bool.not_eq_false, Bool.not_eq_true, decide_eq_true_eq, decide_eq_false_iff_not, Decidable.not_not, k2.1] at c_14
      simp only [k2.1, Nat.add_zero] at c_30
      simp only [k2.1, Nat.add_zero] at n_30_0
      simp only [k2.1, Nat.add_zero] at n_30_1
      simp only [k2.1, Nat.add_zero] at n_30_2
      simp only [k2.1, Nat.add_zero] at n_30_3
      simp only [k2.1, Nat.add_zero] at n_30_4
      refine ⟨?_, U2, hM1, hk.tr (k2.le (Nat.zero_le n)), hs2⟩
      try simp only [e14, k2.1, mRd_k hk]
      simp [lod, sLoad, c_14, c_30, n_30_0, n_30_1, n_30_2, n_30_3, n_30_4]
    refine aw_tswo (tgt := 159) eX7_load_30 (by have g0 := zne n_30_0 (show ((1 : Int32)).toInt = 1 by decide); have g1 := zne n_30_1 (show ((2 : Int32)).toInt = 2 by decide); have g2 := zne n_30_2 (show ((3 : Int32)).toInt = 3 by decide); have g3 := zne n_30_3 (show ((4 : Int32)).toInt = 4 by decide); have g4 := zne n_30_4 (show ((5 : Int32)).toInt = 5 by decide); have g5 := zne n_30_5 (show ((6 : Int32)).toInt = 6 by decide); omega) (by decide) ?_
    refine aw_aload_n (pc' := 160) eX7_load_159 rfl rfl trivial ?_
    refine aw_Mint (pc' := 163) (kf := 14) hM1 eX7_load_160 rfl (by decide) q803 ?_
    refine aw_ret (v := some (.int _)) eX7_load_163 ⟨rfl, rfl⟩ (by omega) (by omega) rfl ?_
    simp only [zb_eq0, Bool.not_eq_false, Bool.not_eq_true, decide_eq_true_eq, decide_eq_false_iff_not, Decidable.not_not, k2.1] at c_14
    simp only [k2.1, Nat.add_zero] at n_30_0
    simp only [k2.1, Nat.add_zero] at n_30_1
    simp only [k2.1, Nat.add_zero] at n_30_2
    simp only [k2.1, Nat.add_zero] at n_30_3
    simp only [k2.1, Nat.add_zero] at n_30_4
    simp only [k2.1, Nat.add_zero] at n_30_5
    refine ⟨?_, U2, hM1, hk.tr (k2.le (Nat.zero_le n)), hs2⟩
    try simp only [e14, k2.1, mRd_k hk]
    simp [lod, sLoad, c_14, n_30_0, n_30_1, n_30_2, n_30_3, n_30_4, n_30_5]
end M13
end
section
/-! the model: what is brought up -/
section M14
variable {l : Launch} {G : GT} {u : Nat} {U U1 : MS} {d n m t : Nat} {g : Nat → Int32} {h : Hp} {Q : Option Value → Hp → Prop}
def sHv (F : FT) (g : Nat → Int32) (m t : Nat) : Nat → Int32 × Int32
  | 0 => (-1, 0)
  | k + 1 => if g (10 * k + 3) = 1 ∧ ((sHv F g m t k).1 = -1 ∨ (sHv F g m t k).2 < lod F g m t k) then (nI k, lod F g m t k) else sHv F g m t k
theorem sHv_or (F : FT) (g : Nat → Int32) (m t : Nat) : ∀ k, (sHv F g m t k).1 = -1 ∨ ∃ j, j < k ∧ (sHv F g m t k).1 = nI j
  | 0 => Or.inl rfl
  | k + 1 => by
    unfold sHv
    split
    · exact Or.inr ⟨k, by omega, rfl⟩
    · rcases sHv_or F g m t k with h | ⟨j, h1, h2⟩
      · exact Or.inl h
      · exact Or.inr ⟨j, by omega, h2⟩
def sBring (F : FT) (g : Nat → Int32) (m t : Nat) : Nat → Int32 :=
  if (F g 0).2 < sLoads F g m t m ∧ (sHv F g m t m).1 ≠ -1 then upd (upd g (10 * (sHv F g m t m).1.toNatClampNeg + 3) 2) (10 * (sHv F g m t m).1.toNatClampNeg + 5) (jr (nI t + 3 * (sHv F g m t m).1) 12) else g
theorem sBring_hi {F : FT} {g : Nat → Int32} {m t j : Nat} (hm : m ≤ 6) (hj : 60 ≤ j) : sBring F g m t j = g j := by
  unfold sBring
  split
  · rename_i z
    rcases sHv_or F g m t m with y | ⟨k, h1, h2⟩
    · exact absurd y z.2
    · rw [h2, nI_clamp (by omega), upd_ne (by omega), upd_ne (by omega)]
  · rfl
theorem gOk_of {g g' : Nat → Int32} (hg : gOk g m t) (he : g' 60 = g 60) (h67 : g' 67 = g 67) (h68 : g' 68 = g 68) : gOk g' m t := by
  unfold gOk
  rw [he, h67, h68]
  exact hg

abbrev mX7_loads : MT := (RX7, cX7_loads, 3, (some .int), false)
theorem eX7_loads_0 : decode mX7_loads.2.1 0 = .ok (.iconst 0, 1) := by decide +kernel
theorem eX7_loads_1 : decode mX7_loads.2.1 1 = .ok (.istore_n 1, 1) := by decide +kernel
theorem eX7_loads_2 : decode mX7_loads.2.1 2 = .ok (.iconst 0, 1) := by decide +kernel
theorem eX7_loads_3 : decode mX7_loads.2.1 3 = .ok (.istore_n 2, 1) := by decide +kernel
theorem eX7_loads_4 : decode mX7_loads.2.1 4 = .ok (.iload_n 2, 1) := by decide +kernel
theorem eX7_loads_5 : decode mX7_loads.2.1 5 = .ok (.aload_n 0, 1) := by decide +kernel
theorem eX7_loads_6 : decode mX7_loads.2.1 6 = .ok (.getfield 15, 3) := by decide +kernel
theorem eX7_loads_9 : decode mX7_loads.2.1 9 = .ok (.bipush 60, 2) := by decide +kernel
theorem eX7_loads_11 : decode mX7_loads.2.1 11 = .ok (.iaload, 1) := by decide +kernel
theorem eX7_loads_12 : decode mX7_loads.2.1 12 = .ok (.if_icmp .ge 30, 3) := by decide +kernel
theorem eX7_loads_15 : decode mX7_loads.2.1 15 = .ok (.iload_n 1, 1) := by decide +kernel
theorem eX7_loads_16 : decode mX7_loads.2.1 16 = .ok (.aload_n 0, 1) := by decide +kernel
theorem eX7_loads_17 : decode mX7_loads.2.1 17 = .ok (.iload_n 2, 1) := by decide +kernel
theorem eX7_loads_18 : decode mX7_loads.2.1 18 = .ok (.iconst 1, 1) := by decide +kernel
theorem eX7_loads_19 : decode mX7_loads.2.1 19 = .ok (.invokevirtual 105, 3) := by decide +kernel
theorem eX7_loads_22 : decode mX7_loads.2.1 22 = .ok (.ifCond .eq 11, 3) := by decide +kernel
theorem eX7_loads_25 : decode mX7_loads.2.1 25 = .ok (.aload_n 0, 1) := by decide +kernel
theorem eX7_loads_26 : decode mX7_loads.2.1 26 = .ok (.iload_n 2, 1) := by decide +kernel
theorem eX7_loads_27 : decode mX7_loads.2.1 27 = .ok (.invokevirtual 92, 3) := by decide +kernel
theorem eX7_loads_30 : decode mX7_loads.2.1 30 = .ok (.goto 4, 3) := by decide +kernel
theorem eX7_loads_33 : decode mX7_loads.2.1 33 = .ok (.iconst 0, 1) := by decide +kernel
theorem eX7_loads_34 : decode mX7_loads.2.1 34 = .ok (.iadd, 1) := by decide +kernel
theorem eX7_loads_35 : decode mX7_loads.2.1 35 = .ok (.istore_n 1, 1) := by decide +kernel
theorem eX7_loads_36 : decode mX7_loads.2.1 36 = .ok (.iinc 2 1, 3) := by decide +kernel
theorem eX7_loads_39 : decode mX7_loads.2.1 39 = .ok (.goto (-35), 3) := by decide +kernel
theorem eX7_loads_42 : decode mX7_loads.2.1 42 = .ok (.iload_n 1, 1) := by decide +kernel
theorem eX7_loads_43 : decode mX7_loads.2.1 43 = .ok (.ireturn, 1) := by decide +kernel
theorem lp_X7_loads (hz : mZ U) (hg : gOk g m t) (hd : 22 ≤ d) {h0 : Hp} (hQ : ∀ h' U', MAt h' u U' → MK n g U U' → Same u 19 h0 h' → Q (some (.int (sLoads (mRd U) g m t m))) h') : ∀ (j i : Nat) (y x : Int32) (h : Hp) (U1 : MS), j = m - i → i ≤ m → y = nI i → x = sLoads (mRd U) g m t i → MK n g U U1 → MAt h u U1 → Same u 19 h0 h → AW l G mX7_loads d 0 0 Q 0 0 h [some (.ref u), some (.int x), some (.int y)] [] 4 := by
  have hgg := hg
  obtain ⟨hm, hm6, ht, ht2, hgq⟩ := hgg
  intro j
  induction j using Nat.strongRecOn with
  | _ j ih =>
    intro i y x h U1 hj hi hy hx hk hM hs
    subst hy hx
    refine aw_iload_n (pc' := 5) eX7_loads_4 rfl rfl ?_
    refine aw_aload_n (pc' := 6) eX7_loads_5 rfl rfl trivial ?_
    refine aw_Mref (pc' := 9) (kf := 0) 1 hM eX7_loads_6 rfl (by decide) rfl q789 ?_
    refine aw_bipush (pc' := 11) (v := 60) eX7_loads_9 rfl (by decide) ?_
    refine aw_MaldC (pc' := 12) 1 60 hM eX7_loads_11 rfl (by decide) (by unfold vp_in; decide) (by decide) ?_
    refine aw_icmp_ge (pc' := 15) (tgt := 42) eX7_loads_12 rfl (by decide) (fun c_12 => ?_) (fun c_12 => ?_)
    · rw [hk.1, hm] at c_12
      have c9 := ge_nI (by omega) (by omega) c_12
      obtain rfl : i = m := by omega
      refine aw_iload_n (pc' := 43) eX7_loads_42 rfl rfl ?_
      refine aw_ret (v := some (.int _)) eX7_loads_43 ⟨rfl, rfl⟩ (by omega) (by omega) rfl ?_
      exact hQ _ _ hM hk hs
    · rw [hk.1, hm] at c_12
      have c9 := nge_nI (by omega) (by omega) c_12
      refine aw_iload_n (pc' := 16) eX7_loads_15 rfl rfl ?_
      refine aw_aload_n (pc' := 17) eX7_loads_16 rfl rfl trivial ?_
      refine aw_iload_n (pc' := 18) eX7_loads_17 rfl rfl ?_
      refine aw_iconst (pc' := 19) (v := 1) eX7_loads_18 rfl (by decide) ?_
      refine aw_callv (pc' := 22) (nn := 2) (c_isAs (d := d - 1) hM i 1 (by omega) (by omega)) eX7_loads_19 rfl ⟨q957, q960, q62⟩ q959 q36 ⟨rfl, by decide +kernel, by decide +kernel, by decide +kernel⟩ rfl (by rw [hM.2.1]; exact ⟨rfl, rfl⟩) rfl ⟨by omega, by decide⟩ ⟨by omega, by omega⟩ rfl (Nat.le_of_ble_eq_true rfl) (fun v1 h2 hq3 => ?_)
      obtain ⟨rfl, rfl⟩ := hq3
      dsimp only [Option.toList, List.cons_append, List.nil_append]
      refine aw_if_eq (pc' := 25) (tgt := 33) eX7_loads_22 rfl (by decide) (fun c_22 => ?_) (fun c_22 => ?_)
      · refine aw_iconst (pc' := 34) (v := 0) eX7_loads_33 rfl (by decide) ?_
        refine aw_iadd (pc' := 35) eX7_loads_34 rfl ?_
        refine aw_istore_n (pc' := 36) eX7_loads_35 rfl (by decide) ?_
        dsimp only [zst, zst2, zcut]
        refine aw_iinc (pc' := 39) eX7_loads_36 rfl rfl rfl (by decide) ?_
        dsimp only [zst, zst2, zcut]
        refine aw_goto eX7_loads_39 (by decide) (tgt := 4) ?_
        simp only [zb_eq0, Bool.not_eq_false, Bool.not_eq_true, decide_eq_true_eq, decide_eq_false_iff_not, Decidable.not_not, hk.1] at c_22
        refine ih (m - (i + 1)) (by omega) (i + 1) _ _ _ _ rfl (by omega) (nI_inc i) ?_ hk hM hs
        simp [sLoads, c_22]
      · refine aw_aload_n (pc' := 26) eX7_loads_25 rfl rfl trivial ?_
        refine aw_iload_n (pc' := 27) eX7_loads_26 rfl rfl ?_
        refine aw_callv (pc' := 30) (nn := 1) (c_X7_load (d := d - 1) hk hM hz hg (i := i) (by omega) (by omega)) eX7_loads_27 rfl ⟨q905, q908, q62⟩ q907 q23 ⟨rfl, by decide +kernel, by decide +kernel, by decide +kernel⟩ rfl (by rw [hM.2.1]; exact ⟨rfl, rfl⟩) rfl ⟨by omega, by decide⟩ ⟨by omega, by omega⟩ rfl (Nat.le_of_ble_eq_true rfl) (fun v6 h7 hq8 => ?_)
        obtain ⟨rfl, UL, hM4, kl, hs5⟩ := hq8
        dsimp only [Option.toList, List.cons_append, List.nil_append]
        refine aw_goto eX7_loads_30 (by decide) (tgt := 34) ?_
        refine aw_iadd (pc' := 35) eX7_loads_34 rfl ?_
        refine aw_istore_n (pc' := 36) eX7_loads_35 rfl (by decide) ?_
        dsimp only [zst, zst2, zcut]
        refine aw_iinc (pc' := 39) eX7_loads_36 rfl rfl rfl (by decide) ?_
        dsimp only [zst, zst2, zcut]
        refine aw_goto eX7_loads_39 (by decide) (tgt := 4) ?_
        simp only [zb_eq0, Bool.not_eq_false, Bool.not_eq_true, decide_eq_true_eq, decide_eq_false_iff_not, Decidable.not_not, hk.1] at c_22
        refine ih (m - (i + 1)) (by omega) (i + 1) _ _ _ _ rfl (by omega) (nI_inc i) ?_ kl hM4 (hs.tr hs5)
        simp [sLoads, c_22]
theorem c_X7_loads (hk : MK n g U U1) (hM : MAt h u U1) (hz : mZ U) (hg : gOk g m t) (hd : 22 ≤ d) : Ct l G mX7_loads yX7_loads d 0 0 [.ref u] h (fun r h' => r = some (.int (sLoads (mRd U) g m t m)) ∧ ∃ U', MAt h' u U' ∧ MK n g U U' ∧ Same u 19 h h') := by
  refine ct_of (lv := [some (.ref u), none, none]) (by decide +kernel) rfl (fun z => by cases z) (fun _ => rfl) (fun _ => Nat.le_of_ble_eq_true rfl) ?_
  refine aw_iconst (pc' := 1) (v := 0) eX7_loads_0 rfl (by decide) ?_
  refine aw_istore_n (pc' := 2) eX7_loads_1 rfl (by decide) ?_
  dsimp only [zst, zst2, zcut]
  refine aw_iconst (pc' := 3) (v := 0) eX7_loads_2 rfl (by decide) ?_
  refine aw_istore_n (pc' := 4) eX7_loads_3 rfl (by decide) ?_
  dsimp only [zst, zst2, zcut]
  exact lp_X7_loads hz hg hd (fun h' U' a b c => ⟨rfl, U', a, b, c⟩) m 0 _ _ _ _ (by omega) (by omega) rfl rfl hk hM Same.rf
abbrev mX7_roomNow : MT := (RX7, cX7_roomNow, 1, (some .int), false)
theorem eX7_roomNow_0 : decode mX7_roomNow.2.1 0 = .ok (.aload_n 0, 1) := by decide +kernel
theorem eX7_roomNow_1 : decode mX7_roomNow.2.1 1 = .ok (.iconst 0, 1) := by decide +kernel
theorem eX7_roomNow_2 : decode mX7_roomNow.2.1 2 = .ok (.invokevirtual 180, 3) := by decide +kernel
theorem eX7_roomNow_5 : decode mX7_roomNow.2.1 5 = .ok (.aload_n 0, 1) := by decide +kernel
theorem eX7_roomNow_6 : decode mX7_roomNow.2.1 6 = .ok (.getfield 165, 3) := by decide +kernel
theorem eX7_roomNow_9 : decode mX7_roomNow.2.1 9 = .ok (.ireturn, 1) := by decide +kernel
theorem c_X7_roomNow (hk : MK n g U U1) (hM : MAt h u U1) (hz : mZ U) (hg : gOk g m t) (hd : 21 ≤ d) : Ct l G mX7_roomNow yX7_roomNow d 0 0 [.ref u] h (fun r h' => r = some (.int (mRd U g 0).2) ∧ ∃ U', MAt h' u U' ∧ MK n g U U' ∧ Same u 19 h h') := by
  refine ct_of (lv := [some (.ref u)]) (by decide +kernel) rfl (fun z => by cases z) (fun _ => rfl) (fun _ => Nat.le_of_ble_eq_true rfl) ?_
  have hgg := hg
  obtain ⟨hm, hm6, ht, ht2, hgq⟩ := hgg
  refine aw_aload_n (pc' := 1) eX7_roomNow_0 rfl rfl trivial ?_
  refine aw_iconst (pc' := 2) (v := 0) eX7_roomNow_1 rfl (by decide) ?_
  refine aw_callv (pc' := 5) (nn := 1) (c_X7_readFor (d := d - 1) hM (i := 0) (by omega) (hz.k hk) (by rw [hk.1]; exact hgq) (by omega)) eX7_roomNow_2 rfl ⟨q909, q912, q62⟩ q911 q24 ⟨rfl, by decide +kernel, by decide +kernel, by decide +kernel⟩ rfl (by rw [hM.2.1]; exact ⟨rfl, rfl⟩) rfl ⟨by omega, by decide⟩ ⟨by omega, by omega⟩ rfl (Nat.le_of_ble_eq_true rfl) (fun v3 h4 hq5 => ?_)
  obtain ⟨rfl, U2, hM1, k2, e14, e15, hs2⟩ := hq5
  dsimp only [Option.toList, List.cons_append, List.nil_append]
  refine aw_aload_n (pc' := 6) eX7_roomNow_5 rfl rfl trivial ?_
  refine aw_Mint (pc' := 9) (kf := 15) hM1 eX7_roomNow_6 rfl (by decide) q804 ?_
  refine aw_ret (v := some (.int _)) eX7_roomNow_9 ⟨rfl, rfl⟩ (by omega) (by omega) rfl ?_
  have k3 := k2
  rw [hk.1] at k3
  exact ⟨by rw [e15, hk.1, mRd_k hk], U2, hM1, hk.tr (k3.le (Nat.zero_le n)), hs2⟩
abbrev mX7_bringUp : MT := (RX7, cX7_bringUp, 5, none, false)
theorem eX7_bringUp_0 : decode mX7_bringUp.2.1 0 = .ok (.aload_n 0, 1) := by decide +kernel
theorem eX7_bringUp_1 : decode mX7_bringUp.2.1 1 = .ok (.invokevirtual 191, 3) := by decide +kernel
theorem eX7_bringUp_4 : decode mX7_bringUp.2.1 4 = .ok (.aload_n 0, 1) := by decide +kernel
theorem eX7_bringUp_5 : decode mX7_bringUp.2.1 5 = .ok (.invokevirtual 194, 3) := by decide +kernel
theorem eX7_bringUp_8 : decode mX7_bringUp.2.1 8 = .ok (.if_icmp .gt 4, 3) := by decide +kernel
theorem eX7_bringUp_11 : decode mX7_bringUp.2.1 11 = .ok (.return_, 1) := by decide +kernel
theorem eX7_bringUp_12 : decode mX7_bringUp.2.1 12 = .ok (.iconst (-1), 1) := by decide +kernel
theorem eX7_bringUp_13 : decode mX7_bringUp.2.1 13 = .ok (.istore_n 1, 1) := by decide +kernel
theorem eX7_bringUp_14 : decode mX7_bringUp.2.1 14 = .ok (.iconst 0, 1) := by decide +kernel
theorem eX7_bringUp_15 : decode mX7_bringUp.2.1 15 = .ok (.istore_n 2, 1) := by decide +kernel
theorem eX7_bringUp_16 : decode mX7_bringUp.2.1 16 = .ok (.iconst 0, 1) := by decide +kernel
theorem eX7_bringUp_17 : decode mX7_bringUp.2.1 17 = .ok (.istore_n 3, 1) := by decide +kernel
theorem eX7_bringUp_18 : decode mX7_bringUp.2.1 18 = .ok (.iload_n 3, 1) := by decide +kernel
theorem eX7_bringUp_19 : decode mX7_bringUp.2.1 19 = .ok (.aload_n 0, 1) := by decide +kernel
theorem eX7_bringUp_20 : decode mX7_bringUp.2.1 20 = .ok (.getfield 15, 3) := by decide +kernel
theorem eX7_bringUp_23 : decode mX7_bringUp.2.1 23 = .ok (.bipush 60, 2) := by decide +kernel
theorem eX7_bringUp_25 : decode mX7_bringUp.2.1 25 = .ok (.iaload, 1) := by decide +kernel
theorem eX7_bringUp_26 : decode mX7_bringUp.2.1 26 = .ok (.if_icmp .ge 41, 3) := by decide +kernel
theorem eX7_bringUp_29 : decode mX7_bringUp.2.1 29 = .ok (.aload_n 0, 1) := by decide +kernel
theorem eX7_bringUp_30 : decode mX7_bringUp.2.1 30 = .ok (.iload_n 3, 1) := by decide +kernel
theorem eX7_bringUp_31 : decode mX7_bringUp.2.1 31 = .ok (.iconst 1, 1) := by decide +kernel
theorem eX7_bringUp_32 : decode mX7_bringUp.2.1 32 = .ok (.invokevirtual 105, 3) := by decide +kernel
theorem eX7_bringUp_35 : decode mX7_bringUp.2.1 35 = .ok (.ifCond .eq 26, 3) := by decide +kernel
theorem eX7_bringUp_38 : decode mX7_bringUp.2.1 38 = .ok (.aload_n 0, 1) := by decide +kernel
theorem eX7_bringUp_39 : decode mX7_bringUp.2.1 39 = .ok (.iload_n 3, 1) := by decide +kernel
theorem eX7_bringUp_40 : decode mX7_bringUp.2.1 40 = .ok (.invokevirtual 92, 3) := by decide +kernel
theorem eX7_bringUp_43 : decode mX7_bringUp.2.1 43 = .ok (.istore 4, 2) := by decide +kernel
theorem eX7_bringUp_45 : decode mX7_bringUp.2.1 45 = .ok (.iload_n 1, 1) := by decide +kernel
theorem eX7_bringUp_46 : decode mX7_bringUp.2.1 46 = .ok (.iconst (-1), 1) := by decide +kernel
theorem eX7_bringUp_47 : decode mX7_bringUp.2.1 47 = .ok (.if_icmp .eq 9, 3) := by decide +kernel
theorem eX7_bringUp_50 : decode mX7_bringUp.2.1 50 = .ok (.iload 4, 2) := by decide +kernel
theorem eX7_bringUp_52 : decode mX7_bringUp.2.1 52 = .ok (.iload_n 2, 1) := by decide +kernel
theorem eX7_bringUp_53 : decode mX7_bringUp.2.1 53 = .ok (.if_icmp .le 8, 3) := by decide +kernel
theorem eX7_bringUp_56 : decode mX7_bringUp.2.1 56 = .ok (.iload_n 3, 1) := by decide +kernel
theorem eX7_bringUp_57 : decode mX7_bringUp.2.1 57 = .ok (.istore_n 1, 1) := by decide +kernel
theorem eX7_bringUp_58 : decode mX7_bringUp.2.1 58 = .ok (.iload 4, 2) := by decide +kernel
theorem eX7_bringUp_60 : decode mX7_bringUp.2.1 60 = .ok (.istore_n 2, 1) := by decide +kernel
theorem eX7_bringUp_61 : decode mX7_bringUp.2.1 61 = .ok (.iinc 3 1, 3) := by decide +kernel
theorem eX7_bringUp_64 : decode mX7_bringUp.2.1 64 = .ok (.goto (-46), 3) := by decide +kernel
theorem eX7_bringUp_67 : decode mX7_bringUp.2.1 67 = .ok (.iload_n 1, 1) := by decide +kernel
theorem eX7_bringUp_68 : decode mX7_bringUp.2.1 68 = .ok (.iconst (-1), 1) := by decide +kernel
theorem eX7_bringUp_69 : decode mX7_bringUp.2.1 69 = .ok (.if_icmp .eq 32, 3) := by decide +kernel
theorem eX7_bringUp_72 : decode mX7_bringUp.2.1 72 = .ok (.aload_n 0, 1) := by decide +kernel
theorem eX7_bringUp_73 : decode mX7_bringUp.2.1 73 = .ok (.iload_n 1, 1) := by decide +kernel
theorem eX7_bringUp_74 : decode mX7_bringUp.2.1 74 = .ok (.iconst 3, 1) := by decide +kernel
theorem eX7_bringUp_75 : decode mX7_bringUp.2.1 75 = .ok (.iconst 2, 1) := by decide +kernel
theorem eX7_bringUp_76 : decode mX7_bringUp.2.1 76 = .ok (.invokevirtual 109, 3) := by decide +kernel
theorem eX7_bringUp_79 : decode mX7_bringUp.2.1 79 = .ok (.pop, 1) := by decide +kernel
theorem eX7_bringUp_80 : decode mX7_bringUp.2.1 80 = .ok (.aload_n 0, 1) := by decide +kernel
theorem eX7_bringUp_81 : decode mX7_bringUp.2.1 81 = .ok (.iload_n 1, 1) := by decide +kernel
theorem eX7_bringUp_82 : decode mX7_bringUp.2.1 82 = .ok (.iconst 5, 1) := by decide +kernel
theorem eX7_bringUp_83 : decode mX7_bringUp.2.1 83 = .ok (.aload_n 0, 1) := by decide +kernel
theorem eX7_bringUp_84 : decode mX7_bringUp.2.1 84 = .ok (.getfield 15, 3) := by decide +kernel
theorem eX7_bringUp_87 : decode mX7_bringUp.2.1 87 = .ok (.bipush 67, 2) := by decide +kernel
theorem eX7_bringUp_89 : decode mX7_bringUp.2.1 89 = .ok (.iaload, 1) := by decide +kernel
theorem eX7_bringUp_90 : decode mX7_bringUp.2.1 90 = .ok (.iconst 3, 1) := by decide +kernel
theorem eX7_bringUp_91 : decode mX7_bringUp.2.1 91 = .ok (.iload_n 1, 1) := by decide +kernel
theorem eX7_bringUp_92 : decode mX7_bringUp.2.1 92 = .ok (.imul, 1) := by decide +kernel
theorem eX7_bringUp_93 : decode mX7_bringUp.2.1 93 = .ok (.iadd, 1) := by decide +kernel
theorem eX7_bringUp_94 : decode mX7_bringUp.2.1 94 = .ok (.bipush 12, 2) := by decide +kernel
theorem eX7_bringUp_96 : decode mX7_bringUp.2.1 96 = .ok (.irem, 1) := by decide +kernel
theorem eX7_bringUp_97 : decode mX7_bringUp.2.1 97 = .ok (.invokevirtual 109, 3) := by decide +kernel
theorem eX7_bringUp_100 : decode mX7_bringUp.2.1 100 = .ok (.pop, 1) := by decide +kernel
theorem eX7_bringUp_101 : decode mX7_bringUp.2.1 101 = .ok (.return_, 1) := by decide +kernel
theorem lp_X7_bringUp (hz : mZ U) (hg : gOk g m t) (hd : 22 ≤ d) {h0 : Hp} (hQ : ∀ h' U' o3 o4, MAt h' u U' → MK n g U U' → Same u 19 h0 h' → AW l G mX7_bringUp d 0 0 Q 0 0 h' [some (.ref u), some (.int (sHv (mRd U) g m t m).1), some (.int (sHv (mRd U) g m t m).2), o3, o4] [] 67) : ∀ (j i : Nat) (y x1 x2 : Int32) (o4 : Option Value) (h : Hp) (U1 : MS), j = m - i → i ≤ m → y = nI i → x1 = (sHv (mRd U) g m t i).1 → x2 = (sHv (mRd U) g m t i).2 → MK n g U U1 → MAt h u U1 → Same u 19 h0 h → AW l G mX7_bringUp d 0 0 Q 0 0 h [some (.ref u), some (.int x1), some (.int x2), some (.int y), o4] [] 18 := by
  have hgg := hg
  obtain ⟨hm, hm6, ht, ht2, hgq⟩ := hgg
  intro j
  induction j using Nat.strongRecOn with
  | _ j ih =>
    intro i y x1 x2 o4 h U1 hj hi hy hx1 hx2 hk hM hs
    subst hy hx1 hx2
    refine aw_iload_n (pc' := 19) eX7_bringUp_18 rfl rfl ?_
    refine aw_aload_n (pc' := 20) eX7_bringUp_19 rfl rfl trivial ?_
    refine aw_Mref (pc' := 23) (kf := 0) 1 hM eX7_bringUp_20 rfl (by decide) rfl q789 ?_
    refine aw_bipush (pc' := 25) (v := 60) eX7_bringUp_23 rfl (by decide) ?_
    refine aw_MaldC (pc' := 26) 1 60 hM eX7_bringUp_25 rfl (by decide) (by unfold vp_in; decide) (by decide) ?_
    refine aw_icmp_ge (pc' := 29) (tgt := 67) eX7_bringUp_26 rfl (by decide) (fun c_26 => ?_) (fun c_26 => ?_)
    · rw [hk.1, hm] at c_26
      have c9 := ge_nI (by omega) (by omega) c_26
      obtain rfl : i = m := by omega
      exact hQ _ _ _ _ hM hk hs
    · rw [hk.1, hm] at c_26
      have c9 := nge_nI (by omega) (by omega) c_26
      refine aw_aload_n (pc' := 30) eX7_bringUp_29 rfl rfl trivial ?_
      refine aw_iload_n (pc' := 31) eX7_bringUp_30 rfl rfl ?_
      refine aw_iconst (pc' := 32) (v := 1) eX7_bringUp_31 rfl (by decide) ?_
      refine aw_callv (pc' := 35) (nn := 2) (c_isAs (d := d - 1) hM i 1 (by omega) (by omega)) eX7_bringUp_32 rfl ⟨q957, q960, q62⟩ q959 q36 ⟨rfl, by decide +kernel, by decide +kernel, by decide +kernel⟩ rfl (by rw [hM.2.1]; exact ⟨rfl, rfl⟩) rfl ⟨by omega, by decide⟩ ⟨by omega, by omega⟩ rfl (Nat.le_of_ble_eq_true rfl) (fun v1 h2 hq3 => ?_)
      obtain ⟨rfl, rfl⟩ := hq3
      dsimp only [Option.toList, List.cons_append, List.nil_append]
      refine aw_if_eq (pc' := 38) (tgt := 61) eX7_bringUp_35 rfl (by decide) (fun c_35 => ?_) (fun c_35 => ?_)
      · refine aw_iinc (pc' := 64) eX7_bringUp_61 rfl rfl rfl (by decide) ?_
        dsimp only [zst, zst2, zcut]
        refine aw_goto eX7_bringUp_64 (by decide) (tgt := 18) ?_
        simp only [zb_eq0, Bool.not_eq_false, Bool.not_eq_true, decide_eq_true_eq, decide_eq_false_iff_not, Decidable.not_not, hk.1] at c_35
        have e : sHv (mRd U) g m t (i + 1) = sHv (mRd U) g m t i := if_neg (fun z => c_35 z.1)
        exact ih (m - (i + 1)) (by omega) (i + 1) _ _ _ _ _ _ rfl (by omega) (nI_inc i) (by rw [e]) (by rw [e]) hk hM hs
      · refine aw_aload_n (pc' := 39) eX7_bringUp_38 rfl rfl trivial ?_
        refine aw_iload_n (pc' := 40) eX7_bringUp_39 rfl rfl ?_
        refine aw_callv (pc' := 43) (nn := 1) (c_X7_load (d := d - 1) hk hM hz hg (i := i) (by omega) (by omega)) eX7_bringUp_40 rfl ⟨q905, q908, q62⟩ q907 q23 ⟨rfl, by decide +kernel, by decide +kernel, by decide +kernel⟩ rfl (by rw [hM.2.1]; exact ⟨rfl, rfl⟩) rfl ⟨by omega, by decide⟩ ⟨by omega, by omega⟩ rfl (Nat.le_of_ble_eq_true rfl) (fun v6 h7 hq8 => ?_)
        obtain ⟨rfl, UL, hM4, kl, hs5⟩ := hq8
        dsimp only [Option.toList, List.cons_append, List.nil_append]
        refine aw_istore (pc' := 45) eX7_bringUp_43 rfl (by decide) ?_
        dsimp only [zst, zst2, zcut]
        refine aw_iload_n (pc' := 46) eX7_bringUp_45 rfl rfl ?_
        refine aw_iconst (pc' := 47) (v := -1) eX7_bringUp_46 rfl (by decide) ?_
        refine aw_icmp_eq (pc' := 50) (tgt := 56) eX7_bringUp_47 rfl (by decide) (fun c_47 => ?_) (fun c_47 => ?_)
        · refine aw_iload_n (pc' := 57) eX7_bringUp_56 rfl rfl ?_
          refine aw_istore_n (pc' := 58) eX7_bringUp_57 rfl (by decide) ?_
          dsimp only [zst, zst2, zcut]
          refine aw_iload (pc' := 60) eX7_bringUp_58 rfl rfl ?_
          refine aw_istore_n (pc' := 61) eX7_bringUp_60 rfl (by decide) ?_
          dsimp only [zst, zst2, zcut]
          refine aw_iinc (pc' := 64) eX7_bringUp_61 rfl rfl rfl (by decide) ?_
          dsimp only [zst, zst2, zcut]
          refine aw_goto eX7_bringUp_64 (by decide) (tgt := 18) ?_
          simp only [zb_eq0, Bool.not_eq_false, Bool.not_eq_true, decide_eq_true_eq, decide_eq_false_iff_not, Decidable.not_not, hk.1] at c_35
          have e : sHv (mRd U) g m t (i + 1) = (nI i, lod (mRd U) g m t i) := if_pos ⟨c_35, Or.inl (by first | exact c_47 | exact Decidable.not_not.mp c_47)⟩
          exact ih (m - (i + 1)) (by omega) (i + 1) _ _ _ _ _ _ rfl (by omega) (nI_inc i) (by rw [e]) (by rw [e]) kl hM4 (hs.tr hs5)
        · refine aw_iload (pc' := 52) eX7_bringUp_50 rfl rfl ?_
          refine aw_iload_n (pc' := 53) eX7_bringUp_52 rfl rfl ?_
          refine aw_icmp_le (pc' := 56) (tgt := 61) eX7_bringUp_53 rfl (by decide) (fun c_53 => ?_) (fun c_53 => ?_)
          · refine aw_iinc (pc' := 64) eX7_bringUp_61 rfl rfl rfl (by decide) ?_
            dsimp only [zst, zst2, zcut]
            refine aw_goto eX7_bringUp_64 (by decide) (tgt := 18) ?_
            simp only [zb_eq0, Bool.not_eq_false, Bool.not_eq_true, decide_eq_true_eq, decide_eq_false_iff_not, Decidable.not_not, hk.1] at c_35
            have e : sHv (mRd U) g m t (i + 1) = sHv (mRd U) g m t i := if_neg (fun z => z.2.elim (fun y => by first | exact c_47 y | exact c_47 (fun w => w y)) (fun y => absurd y (by first | exact Int32.not_lt.mpr c_53 | exact c_53)))
            exact ih (m - (i + 1)) (by omega) (i + 1) _ _ _ _ _ _ rfl (by omega) (nI_inc i) (by rw [e]) (by rw [e]) kl hM4 (hs.tr hs5)
          · refine aw_iload_n (pc' := 57) eX7_bringUp_56 rfl rfl ?_
            refine aw_istore_n (pc' := 58) eX7_bringUp_57 rfl (by decide) ?_
            dsimp only [zst, zst2, zcut]
            refine aw_iload (pc' := 60) eX7_bringUp_58 rfl rfl ?_
            refine aw_istore_n (pc' := 61) eX7_bringUp_60 rfl (by decide) ?_
            dsimp only [zst, zst2, zcut]
            refine aw_iinc (pc' := 64) eX7_bringUp_61 rfl rfl rfl (by decide) ?_
            dsimp only [zst, zst2, zcut]
            refine aw_goto eX7_bringUp_64 (by decide) (tgt := 18) ?_
            simp only [zb_eq0, Bool.not_eq_false, Bool.not_eq_true, decide_eq_true_eq, decide_eq_false_iff_not, Decidable.not_not, hk.1] at c_35
            have e : sHv (mRd U) g m t (i + 1) = (nI i, lod (mRd U) g m t i) := if_pos ⟨c_35, Or.inr (by first | exact c_53 | exact Int32.not_le.mp c_53)⟩
            exact ih (m - (i + 1)) (by omega) (i + 1) _ _ _ _ _ _ rfl (by omega) (nI_inc i) (by rw [e]) (by rw [e]) kl hM4 (hs.tr hs5)
theorem c_X7_bringUp (hk : MK n g U U1) (hM : MAt h u U1) (hz : mZ U) (hg : gOk g m t) (hd : 23 ≤ d) : Ct l G mX7_bringUp yX7_bringUp d 0 0 [.ref u] h (fun r h' => r = none ∧ ∃ U', MAt h' u U' ∧ MK n (sBring (mRd U) g m t) U U' ∧ Same u 19 h h') := by
  refine ct_of (lv := [some (.ref u), none, none, none, none]) (by decide +kernel) rfl (fun z => by cases z) (fun _ => rfl) (fun _ => Nat.le_of_ble_eq_true rfl) ?_
  have hgg := hg
  obtain ⟨hm, hm6, ht, ht2, hgq⟩ := hgg
  refine aw_aload_n (pc' := 1) eX7_bringUp_0 rfl rfl trivial ?_
  refine aw_callv (pc' := 4) (nn := 0) (c_X7_loads (d := d - 1) hk hM hz hg (by omega)) eX7_bringUp_1 rfl ⟨q978, q981, q62⟩ q980 q41 ⟨rfl, by decide +kernel, by decide +kernel, by decide +kernel⟩ rfl (by rw [hM.2.1]; exact ⟨rfl, rfl⟩) rfl ⟨by omega, by decide⟩ ⟨by omega, by omega⟩ rfl (Nat.le_of_ble_eq_true rfl) (fun v3 h4 hq5 => ?_)
  obtain ⟨rfl, UL, hM1, k2, hs2⟩ := hq5
  dsimp only [Option.toList, List.cons_append, List.nil_append]
  refine aw_aload_n (pc' := 5) eX7_bringUp_4 rfl rfl trivial ?_
  refine aw_callv (pc' := 8) (nn := 0) (c_X7_roomNow (d := d - 1) k2 hM1 hz hg (by omega)) eX7_bringUp_5 rfl ⟨q982, q985, q62⟩ q984 q42 ⟨rfl, by decide +kernel, by decide +kernel, by decide +kernel⟩ rfl (by rw [hM1.2.1]; exact ⟨rfl, rfl⟩) rfl ⟨by omega, by decide⟩ ⟨by omega, by omega⟩ rfl (Nat.le_of_ble_eq_true rfl) (fun v8 h9 hq10 => ?_)
  obtain ⟨rfl, UR, hM6, k3, hs7⟩ := hq10
  have hT11 := hs2.tr hs7
  dsimp only [Option.toList, List.cons_append, List.nil_append]
  refine aw_icmp_gt (pc' := 11) (tgt := 12) eX7_bringUp_8 rfl (by decide) (fun c_8 => ?_) (fun c_8 => ?_)
  · refine aw_iconst (pc' := 13) (v := -1) eX7_bringUp_12 rfl (by decide) ?_
    refine aw_istore_n (pc' := 14) eX7_bringUp_13 rfl (by decide) ?_
    dsimp only [zst, zst2, zcut]
    refine aw_iconst (pc' := 15) (v := 0) eX7_bringUp_14 rfl (by decide) ?_
    refine aw_istore_n (pc' := 16) eX7_bringUp_15 rfl (by decide) ?_
    dsimp only [zst, zst2, zcut]
    refine aw_iconst (pc' := 17) (v := 0) eX7_bringUp_16 rfl (by decide) ?_
    refine aw_istore_n (pc' := 18) eX7_bringUp_17 rfl (by decide) ?_
    dsimp only [zst, zst2, zcut]
    refine lp_X7_bringUp (n := n) hz hg (by omega) (fun h' U' o3 o4 m9 k9 s9 => ?_) m 0 _ _ _ _ _ _ (by omega) (by omega) rfl rfl rfl k3 hM6 hT11
    refine aw_iload_n (pc' := 68) eX7_bringUp_67 rfl rfl ?_
    refine aw_iconst (pc' := 69) (v := -1) eX7_bringUp_68 rfl (by decide) ?_
    refine aw_icmp_eq (pc' := 72) (tgt := 101) eX7_bringUp_69 rfl (by decide) (fun c_69 => ?_) (fun c_69 => ?_)
    · refine aw_ret (v := none) eX7_bringUp_101 rfl (by omega) (by omega) rfl ?_
      exact ⟨rfl, _, m9, by rw [sBring, if_neg (fun z => z.2 (by first | exact c_69 | exact Decidable.not_not.mp c_69))]; exact k9, s9⟩
    · obtain ⟨b, hb, eb⟩ := (sHv_or (mRd U) g m t m).resolve_left c_69
      rw [eb]
      have e67 : (mup U' 1 (10 * b + 3) 2).1 1 67 = nI t := by rw [mup1, upd_ne (by omega), k9.1]; exact ht
      have eS : sBring (mRd U) g m t = upd (upd g (10 * b + 3) 2) (10 * b + 5) (jr (nI t + 3 * nI b) 12) := by
        rw [sBring, if_pos ⟨by first | exact c_8 | exact Int32.not_le.mp c_8, c_69⟩, eb, nI_clamp (by omega)]
      refine aw_aload_n (pc' := 73) eX7_bringUp_72 rfl rfl trivial ?_
      refine aw_iload_n (pc' := 74) eX7_bringUp_73 rfl rfl ?_
      refine aw_iconst (pc' := 75) (v := 3) eX7_bringUp_74 rfl (by decide) ?_
      refine aw_iconst (pc' := 76) (v := 2) eX7_bringUp_75 rfl (by decide) ?_
      refine aw_callv (pc' := 79) (nn := 3) (c_change (d := d - 1) m9 b 3 2 (by omega) (by omega)) eX7_bringUp_76 rfl ⟨q986, q989, q62⟩ q988 q43 ⟨rfl, by decide +kernel, by decide +kernel, by decide +kernel⟩ rfl (by rw [m9.2.1]; exact ⟨rfl, rfl⟩) rfl ⟨by omega, by decide⟩ ⟨by omega, by omega⟩ rfl (Nat.le_of_ble_eq_true rfl) (fun v3 h4 hq5 => ?_)
      obtain ⟨rfl, hM1, hs2⟩ := hq5
      have hT6 := s9.tr hs2
      dsimp only [Option.toList, List.cons_append, List.nil_append]
      refine aw_pop (pc' := 80) eX7_bringUp_79 rfl rfl ?_
      refine aw_aload_n (pc' := 81) eX7_bringUp_80 rfl rfl trivial ?_
      refine aw_iload_n (pc' := 82) eX7_bringUp_81 rfl rfl ?_
      refine aw_iconst (pc' := 83) (v := 5) eX7_bringUp_82 rfl (by decide) ?_
      refine aw_aload_n (pc' := 84) eX7_bringUp_83 rfl rfl trivial ?_
      refine aw_Mref (pc' := 87) (kf := 0) 1 hM1 eX7_bringUp_84 rfl (by decide) rfl q789 ?_
      refine aw_bipush (pc' := 89) (v := 67) eX7_bringUp_87 rfl (by decide) ?_
      refine aw_MaldC (pc' := 90) 1 67 hM1 eX7_bringUp_89 rfl (by decide) (by unfold vp_in; decide) (by decide) ?_
      refine aw_iconst (pc' := 91) (v := 3) eX7_bringUp_90 rfl (by decide) ?_
      refine aw_iload_n (pc' := 92) eX7_bringUp_91 rfl rfl ?_
      refine aw_imul (pc' := 93) eX7_bringUp_92 rfl ?_
      refine aw_iadd (pc' := 94) eX7_bringUp_93 rfl ?_
      refine aw_bipush (pc' := 96) (v := 12) eX7_bringUp_94 rfl (by decide) ?_
      rw [e67]
      refine aw_irem (pc' := 97) eX7_bringUp_96 rfl (by decide) ?_
      refine aw_callv (pc' := 100) (nn := 3) (c_change (d := d - 1) hM1 b 5 _ (by omega) (by omega)) eX7_bringUp_97 rfl ⟨q986, q989, q62⟩ q988 q43 ⟨rfl, by decide +kernel, by decide +kernel, by decide +kernel⟩ rfl (by rw [hM1.2.1]; exact ⟨rfl, rfl⟩) rfl ⟨by omega, by decide⟩ ⟨by omega, by omega⟩ rfl (Nat.le_of_ble_eq_true rfl) (fun v9 h10 hq11 => ?_)
      obtain ⟨rfl, hM7, hs8⟩ := hq11
      have hT12 := hT6.tr hs8
      dsimp only [Option.toList, List.cons_append, List.nil_append]
      refine aw_pop (pc' := 101) eX7_bringUp_100 rfl rfl ?_
      refine aw_ret (v := none) eX7_bringUp_101 rfl (by omega) (by omega) rfl ?_
      exact ⟨rfl, _, hM7, by rw [eS]; exact k9.up.up, hT12⟩
  · refine aw_ret (v := none) eX7_bringUp_11 rfl (by omega) (by omega) rfl ?_
    exact ⟨rfl, _, hM6, by rw [sBring, if_neg (fun z => absurd z.1 (by first | exact c_8 | exact Int32.not_lt.mpr c_8))]; exact k3, hT11⟩
end M14
end
section
/-! the model: a day -/
section M15
variable {l : Launch} {G : GT} {u : Nat} {U U1 : MS} {d n m t : Nat} {g : Nat → Int32} {h : Hp} {Q : Option Value → Hp → Prop}
def sD1 (cur : Int32) (i : Nat) (g : Nat → Int32) : Nat → Int32 :=
  if g (10 * i + 3) = 2 then upd (upd g (10 * i + 5) (jr (g (10 * i + 5) + cur) 12)) (10 * i + 3) (if (g 61 >>> (jr (g (10 * i + 5) + cur) 12 &&& 31)) &&& 1 = 1 then 3 else 2) else g
def sD2 (i : Nat) (g : Nat → Int32) : Nat → Int32 := if g (10 * i + 3) = 3 ∧ g (10 * i + 5) = g 62 then upd g (10 * i + 3) 4 else g
def sD3 (i : Nat) (g : Nat → Int32) : Nat → Int32 := if g (10 * i + 3) = 1 then upd g (10 * i + 4) (g (10 * i + 4) + 1) else g
def sDs (cur : Int32) (g : Nat → Int32) : Nat → Nat → Int32
  | 0 => g
  | i + 1 => sD3 i (sD2 i (sD1 cur i (sDs cur g i)))
theorem sD1_hi {cur : Int32} {i j : Nat} {g : Nat → Int32} (hi : i < 6) (hj : 60 ≤ j) : sD1 cur i g j = g j := by
  unfold sD1
  split
  · rw [upd_ne (by omega), upd_ne (by omega)]
  · rfl
theorem sD2_hi {i j : Nat} {g : Nat → Int32} (hi : i < 6) (hj : 60 ≤ j) : sD2 i g j = g j := by
  unfold sD2
  split
  · rw [upd_ne (by omega)]
  · rfl
theorem sD3_hi {i j : Nat} {g : Nat → Int32} (hi : i < 6) (hj : 60 ≤ j) : sD3 i g j = g j := by
  unfold sD3
  split
  · rw [upd_ne (by omega)]
  · rfl
theorem sDs_hi {cur : Int32} {g : Nat → Int32} {j : Nat} (hj : 60 ≤ j) : ∀ i, i ≤ 6 → sDs cur g i j = g j
  | 0, _ => rfl
  | i + 1, h => by rw [sDs, sD3_hi (by omega) hj, sD2_hi (by omega) hj, sD1_hi (by omega) hj, sDs_hi hj i (by omega)]
/-- the finder goes on -/
def sFi (g : Nat → Int32) : Nat → Int32 := upd g 62 (jr (g 62 + 1) 12)
def sDay (F : FT) (m t : Nat) (g : Nat → Int32) : Nat → Int32 :=
  upd (sDs (g (63 + t % 4)) (sFi (sBring F g m t)) m) 67 (nI (t + 1))
def sDys (F : FT) (m : Nat) : Nat → Nat → (Nat → Int32) → (Nat → Int32)
  | 0, _, g => g
  | k + 1, t, g => sDys F m k (t + 1) (sDay F m t g)
theorem sDay_hi {F : FT} {m t j : Nat} {g : Nat → Int32} (hm : m ≤ 6) (hj : 60 ≤ j) (h62 : j ≠ 62) (h67 : j ≠ 67) : sDay F m t g j = g j := by
  rw [sDay, upd_ne h67, sDs_hi hj m hm, sFi, upd_ne h62, sBring_hi hm hj]
theorem sDay_ok {F : FT} {m t : Nat} {g : Nat → Int32} (hg : gOk g m t) (ht : t < 1073741824) : gOk (sDay F m t g) m (t + 1) := by
  obtain ⟨h1, h2, h3, h4, h5⟩ := hg
  refine ⟨(sDay_hi h2 (by omega) (by decide) (by decide)).trans h1, h2, ?_, by omega, ?_⟩
  · rw [sDay]; exact upd_eq _ _ _
  · rw [sDay_hi h2 (by omega) (by decide) (by decide)]; exact h5
theorem sDys_ok {F : FT} {m : Nat} : ∀ (k t : Nat) (g : Nat → Int32), gOk g m t → t + k ≤ 1073741824 → gOk (sDys F m k t g) m (t + k)
  | 0, _, _, h, _ => h
  | k + 1, t, g, h, ht => by
    have z := sDys_ok (F := F) k (t + 1) _ (sDay_ok (F := F) h (by omega)) (by omega)
    rw [show t + (k + 1) = t + 1 + k by omega]
    exact z
theorem sDys_hi {F : FT} {m j : Nat} (hm : m ≤ 6) (hj : 60 ≤ j) (h62 : j ≠ 62) (h67 : j ≠ 67) : ∀ (k t : Nat) (g : Nat → Int32), sDys F m k t g j = g j
  | 0, _, _ => rfl
  | k + 1, t, g => (sDys_hi hm hj h62 h67 k (t + 1) _).trans (sDay_hi hm hj h62 h67)
theorem mg_id' (g : Nat → Int32) (k : Nat) : upd g k (g k) = g := by
  funext j
  rw [upd_if]
  split
  · rename_i e; rw [e]
  · rfl

abbrev mX7_day : MT := (RX7, cX7_day, 4, none, false)
theorem eX7_day_0 : decode mX7_day.2.1 0 = .ok (.aload_n 0, 1) := by decide +kernel
theorem eX7_day_1 : decode mX7_day.2.1 1 = .ok (.invokevirtual 197, 3) := by decide +kernel
theorem eX7_day_4 : decode mX7_day.2.1 4 = .ok (.aload_n 0, 1) := by decide +kernel
theorem eX7_day_5 : decode mX7_day.2.1 5 = .ok (.getfield 15, 3) := by decide +kernel
theorem eX7_day_8 : decode mX7_day.2.1 8 = .ok (.bipush 63, 2) := by decide +kernel
theorem eX7_day_10 : decode mX7_day.2.1 10 = .ok (.aload_n 0, 1) := by decide +kernel
theorem eX7_day_11 : decode mX7_day.2.1 11 = .ok (.getfield 15, 3) := by decide +kernel
theorem eX7_day_14 : decode mX7_day.2.1 14 = .ok (.bipush 67, 2) := by decide +kernel
theorem eX7_day_16 : decode mX7_day.2.1 16 = .ok (.iaload, 1) := by decide +kernel
theorem eX7_day_17 : decode mX7_day.2.1 17 = .ok (.iconst 4, 1) := by decide +kernel
theorem eX7_day_18 : decode mX7_day.2.1 18 = .ok (.irem, 1) := by decide +kernel
theorem eX7_day_19 : decode mX7_day.2.1 19 = .ok (.iadd, 1) := by decide +kernel
theorem eX7_day_20 : decode mX7_day.2.1 20 = .ok (.iaload, 1) := by decide +kernel
theorem eX7_day_21 : decode mX7_day.2.1 21 = .ok (.istore_n 1, 1) := by decide +kernel
theorem eX7_day_22 : decode mX7_day.2.1 22 = .ok (.aload_n 0, 1) := by decide +kernel
theorem eX7_day_23 : decode mX7_day.2.1 23 = .ok (.getfield 15, 3) := by decide +kernel
theorem eX7_day_26 : decode mX7_day.2.1 26 = .ok (.bipush 62, 2) := by decide +kernel
theorem eX7_day_28 : decode mX7_day.2.1 28 = .ok (.aload_n 0, 1) := by decide +kernel
theorem eX7_day_29 : decode mX7_day.2.1 29 = .ok (.getfield 15, 3) := by decide +kernel
theorem eX7_day_32 : decode mX7_day.2.1 32 = .ok (.bipush 62, 2) := by decide +kernel
theorem eX7_day_34 : decode mX7_day.2.1 34 = .ok (.iaload, 1) := by decide +kernel
theorem eX7_day_35 : decode mX7_day.2.1 35 = .ok (.iconst 1, 1) := by decide +kernel
theorem eX7_day_36 : decode mX7_day.2.1 36 = .ok (.iadd, 1) := by decide +kernel
theorem eX7_day_37 : decode mX7_day.2.1 37 = .ok (.bipush 12, 2) := by decide +kernel
theorem eX7_day_39 : decode mX7_day.2.1 39 = .ok (.irem, 1) := by decide +kernel
theorem eX7_day_40 : decode mX7_day.2.1 40 = .ok (.iastore, 1) := by decide +kernel
theorem eX7_day_41 : decode mX7_day.2.1 41 = .ok (.iconst 0, 1) := by decide +kernel
theorem eX7_day_42 : decode mX7_day.2.1 42 = .ok (.istore_n 2, 1) := by decide +kernel
theorem eX7_day_43 : decode mX7_day.2.1 43 = .ok (.iload_n 2, 1) := by decide +kernel
theorem eX7_day_44 : decode mX7_day.2.1 44 = .ok (.aload_n 0, 1) := by decide +kernel
theorem eX7_day_45 : decode mX7_day.2.1 45 = .ok (.getfield 15, 3) := by decide +kernel
theorem eX7_day_48 : decode mX7_day.2.1 48 = .ok (.bipush 60, 2) := by decide +kernel
theorem eX7_day_50 : decode mX7_day.2.1 50 = .ok (.iaload, 1) := by decide +kernel
theorem eX7_day_51 : decode mX7_day.2.1 51 = .ok (.if_icmp .ge 122, 3) := by decide +kernel
theorem eX7_day_54 : decode mX7_day.2.1 54 = .ok (.aload_n 0, 1) := by decide +kernel
theorem eX7_day_55 : decode mX7_day.2.1 55 = .ok (.iload_n 2, 1) := by decide +kernel
theorem eX7_day_56 : decode mX7_day.2.1 56 = .ok (.iconst 2, 1) := by decide +kernel
theorem eX7_day_57 : decode mX7_day.2.1 57 = .ok (.invokevirtual 105, 3) := by decide +kernel
theorem eX7_day_60 : decode mX7_day.2.1 60 = .ok (.ifCond .eq 50, 3) := by decide +kernel
theorem eX7_day_63 : decode mX7_day.2.1 63 = .ok (.aload_n 0, 1) := by decide +kernel
theorem eX7_day_64 : decode mX7_day.2.1 64 = .ok (.iload_n 2, 1) := by decide +kernel
theorem eX7_day_65 : decode mX7_day.2.1 65 = .ok (.iconst 5, 1) := by decide +kernel
theorem eX7_day_66 : decode mX7_day.2.1 66 = .ok (.invokevirtual 84, 3) := by decide +kernel
theorem eX7_day_69 : decode mX7_day.2.1 69 = .ok (.iload_n 1, 1) := by decide +kernel
theorem eX7_day_70 : decode mX7_day.2.1 70 = .ok (.iadd, 1) := by decide +kernel
theorem eX7_day_71 : decode mX7_day.2.1 71 = .ok (.bipush 12, 2) := by decide +kernel
theorem eX7_day_73 : decode mX7_day.2.1 73 = .ok (.irem, 1) := by decide +kernel
theorem eX7_day_74 : decode mX7_day.2.1 74 = .ok (.istore_n 3, 1) := by decide +kernel
theorem eX7_day_75 : decode mX7_day.2.1 75 = .ok (.aload_n 0, 1) := by decide +kernel
theorem eX7_day_76 : decode mX7_day.2.1 76 = .ok (.iload_n 2, 1) := by decide +kernel
theorem eX7_day_77 : decode mX7_day.2.1 77 = .ok (.iconst 5, 1) := by decide +kernel
theorem eX7_day_78 : decode mX7_day.2.1 78 = .ok (.iload_n 3, 1) := by decide +kernel
theorem eX7_day_79 : decode mX7_day.2.1 79 = .ok (.invokevirtual 109, 3) := by decide +kernel
theorem eX7_day_82 : decode mX7_day.2.1 82 = .ok (.pop, 1) := by decide +kernel
theorem eX7_day_83 : decode mX7_day.2.1 83 = .ok (.aload_n 0, 1) := by decide +kernel
theorem eX7_day_84 : decode mX7_day.2.1 84 = .ok (.iload_n 2, 1) := by decide +kernel
theorem eX7_day_85 : decode mX7_day.2.1 85 = .ok (.iconst 3, 1) := by decide +kernel
theorem eX7_day_86 : decode mX7_day.2.1 86 = .ok (.aload_n 0, 1) := by decide +kernel
theorem eX7_day_87 : decode mX7_day.2.1 87 = .ok (.getfield 15, 3) := by decide +kernel
theorem eX7_day_90 : decode mX7_day.2.1 90 = .ok (.bipush 61, 2) := by decide +kernel
theorem eX7_day_92 : decode mX7_day.2.1 92 = .ok (.iaload, 1) := by decide +kernel
theorem eX7_day_93 : decode mX7_day.2.1 93 = .ok (.iload_n 3, 1) := by decide +kernel
theorem eX7_day_94 : decode mX7_day.2.1 94 = .ok (.ishr, 1) := by decide +kernel
theorem eX7_day_95 : decode mX7_day.2.1 95 = .ok (.iconst 1, 1) := by decide +kernel
theorem eX7_day_96 : decode mX7_day.2.1 96 = .ok (.iand, 1) := by decide +kernel
theorem eX7_day_97 : decode mX7_day.2.1 97 = .ok (.iconst 1, 1) := by decide +kernel
theorem eX7_day_98 : decode mX7_day.2.1 98 = .ok (.if_icmp .ne 7, 3) := by decide +kernel
theorem eX7_day_101 : decode mX7_day.2.1 101 = .ok (.iconst 3, 1) := by decide +kernel
theorem eX7_day_102 : decode mX7_day.2.1 102 = .ok (.goto 4, 3) := by decide +kernel
theorem eX7_day_105 : decode mX7_day.2.1 105 = .ok (.iconst 2, 1) := by decide +kernel
theorem eX7_day_106 : decode mX7_day.2.1 106 = .ok (.invokevirtual 109, 3) := by decide +kernel
theorem eX7_day_109 : decode mX7_day.2.1 109 = .ok (.pop, 1) := by decide +kernel
theorem eX7_day_110 : decode mX7_day.2.1 110 = .ok (.aload_n 0, 1) := by decide +kernel
theorem eX7_day_111 : decode mX7_day.2.1 111 = .ok (.iload_n 2, 1) := by decide +kernel
theorem eX7_day_112 : decode mX7_day.2.1 112 = .ok (.iconst 3, 1) := by decide +kernel
theorem eX7_day_113 : decode mX7_day.2.1 113 = .ok (.invokevirtual 105, 3) := by decide +kernel
theorem eX7_day_116 : decode mX7_day.2.1 116 = .ok (.ifCond .eq 27, 3) := by decide +kernel
theorem eX7_day_119 : decode mX7_day.2.1 119 = .ok (.aload_n 0, 1) := by decide +kernel
theorem eX7_day_120 : decode mX7_day.2.1 120 = .ok (.iload_n 2, 1) := by decide +kernel
theorem eX7_day_121 : decode mX7_day.2.1 121 = .ok (.iconst 5, 1) := by decide +kernel
theorem eX7_day_122 : decode mX7_day.2.1 122 = .ok (.invokevirtual 84, 3) := by decide +kernel
theorem eX7_day_125 : decode mX7_day.2.1 125 = .ok (.aload_n 0, 1) := by decide +kernel
theorem eX7_day_126 : decode mX7_day.2.1 126 = .ok (.getfield 15, 3) := by decide +kernel
theorem eX7_day_129 : decode mX7_day.2.1 129 = .ok (.bipush 62, 2) := by decide +kernel
theorem eX7_day_131 : decode mX7_day.2.1 131 = .ok (.iaload, 1) := by decide +kernel
theorem eX7_day_132 : decode mX7_day.2.1 132 = .ok (.if_icmp .ne 11, 3) := by decide +kernel
theorem eX7_day_135 : decode mX7_day.2.1 135 = .ok (.aload_n 0, 1) := by decide +kernel
theorem eX7_day_136 : decode mX7_day.2.1 136 = .ok (.iload_n 2, 1) := by decide +kernel
theorem eX7_day_137 : decode mX7_day.2.1 137 = .ok (.iconst 3, 1) := by decide +kernel
theorem eX7_day_138 : decode mX7_day.2.1 138 = .ok (.iconst 4, 1) := by decide +kernel
theorem eX7_day_139 : decode mX7_day.2.1 139 = .ok (.invokevirtual 109, 3) := by decide +kernel
theorem eX7_day_142 : decode mX7_day.2.1 142 = .ok (.pop, 1) := by decide +kernel
theorem eX7_day_143 : decode mX7_day.2.1 143 = .ok (.aload_n 0, 1) := by decide +kernel
theorem eX7_day_144 : decode mX7_day.2.1 144 = .ok (.iload_n 2, 1) := by decide +kernel
theorem eX7_day_145 : decode mX7_day.2.1 145 = .ok (.iconst 1, 1) := by decide +kernel
theorem eX7_day_146 : decode mX7_day.2.1 146 = .ok (.invokevirtual 105, 3) := by decide +kernel
theorem eX7_day_149 : decode mX7_day.2.1 149 = .ok (.ifCond .eq 18, 3) := by decide +kernel
theorem eX7_day_152 : decode mX7_day.2.1 152 = .ok (.aload_n 0, 1) := by decide +kernel
theorem eX7_day_153 : decode mX7_day.2.1 153 = .ok (.iload_n 2, 1) := by decide +kernel
theorem eX7_day_154 : decode mX7_day.2.1 154 = .ok (.iconst 4, 1) := by decide +kernel
theorem eX7_day_155 : decode mX7_day.2.1 155 = .ok (.aload_n 0, 1) := by decide +kernel
theorem eX7_day_156 : decode mX7_day.2.1 156 = .ok (.iload_n 2, 1) := by decide +kernel
theorem eX7_day_157 : decode mX7_day.2.1 157 = .ok (.iconst 4, 1) := by decide +kernel
theorem eX7_day_158 : decode mX7_day.2.1 158 = .ok (.invokevirtual 84, 3) := by decide +kernel
theorem eX7_day_161 : decode mX7_day.2.1 161 = .ok (.iconst 1, 1) := by decide +kernel
theorem eX7_day_162 : decode mX7_day.2.1 162 = .ok (.iadd, 1) := by decide +kernel
theorem eX7_day_163 : decode mX7_day.2.1 163 = .ok (.invokevirtual 109, 3) := by decide +kernel
theorem eX7_day_166 : decode mX7_day.2.1 166 = .ok (.pop, 1) := by decide +kernel
theorem eX7_day_167 : decode mX7_day.2.1 167 = .ok (.iinc 2 1, 3) := by decide +kernel
theorem eX7_day_170 : decode mX7_day.2.1 170 = .ok (.goto (-127), 3) := by decide +kernel
theorem eX7_day_173 : decode mX7_day.2.1 173 = .ok (.aload_n 0, 1) := by decide +kernel
theorem eX7_day_174 : decode mX7_day.2.1 174 = .ok (.getfield 15, 3) := by decide +kernel
theorem eX7_day_177 : decode mX7_day.2.1 177 = .ok (.bipush 67, 2) := by decide +kernel
theorem eX7_day_179 : decode mX7_day.2.1 179 = .ok (.dup2, 1) := by decide +kernel
theorem eX7_day_180 : decode mX7_day.2.1 180 = .ok (.iaload, 1) := by decide +kernel
theorem eX7_day_181 : decode mX7_day.2.1 181 = .ok (.iconst 1, 1) := by decide +kernel
theorem eX7_day_182 : decode mX7_day.2.1 182 = .ok (.iadd, 1) := by decide +kernel
theorem eX7_day_183 : decode mX7_day.2.1 183 = .ok (.iastore, 1) := by decide +kernel
theorem eX7_day_184 : decode mX7_day.2.1 184 = .ok (.return_, 1) := by decide +kernel
theorem dy1 {i : Nat} (hi : i < 6) {cur : Int32} (hd : 2 ≤ d) {h0 : Hp} (kk : ∀ h' U' o, MAt h' u U' → MK n (sD1 cur i (U1.1 1)) U U' → Same u 19 h0 h' → AW l G mX7_day d 0 0 Q 0 0 h' [some (.ref u), some (.int cur), some (.int (nI i)), o] [] 110) (o3 : Option Value) (hk : MK n (U1.1 1) U U1) (hM : MAt h u U1) (hs : Same u 19 h0 h) : AW l G mX7_day d 0 0 Q 0 0 h [some (.ref u), some (.int cur), some (.int (nI i)), o3] [] 54 := by
  refine aw_aload_n (pc' := 55) eX7_day_54 rfl rfl trivial ?_
  refine aw_iload_n (pc' := 56) eX7_day_55 rfl rfl ?_
  refine aw_iconst (pc' := 57) (v := 2) eX7_day_56 rfl (by decide) ?_
  refine aw_callv (pc' := 60) (nn := 2) (c_isAs (d := d - 1) hM i 2 (by omega) (by omega)) eX7_day_57 rfl ⟨q957, q960, q62⟩ q959 q36 ⟨rfl, by decide +kernel, by decide +kernel, by decide +kernel⟩ rfl (by rw [hM.2.1]; exact ⟨rfl, rfl⟩) rfl ⟨by omega, by decide⟩ ⟨by omega, by omega⟩ rfl (Nat.le_of_ble_eq_true rfl) (fun v1 h2 hq3 => ?_)
  obtain ⟨rfl, rfl⟩ := hq3
  dsimp only [Option.toList, List.cons_append, List.nil_append]
  refine aw_if_eq (pc' := 63) (tgt := 110) eX7_day_60 rfl (by decide) (fun c_60 => ?_) (fun c_60 => ?_)
  · simp only [zb_eq0, Bool.not_eq_false, Bool.not_eq_true, decide_eq_true_eq, decide_eq_false_iff_not, Decidable.not_not] at c_60
    exact kk _ _ _ hM (by rw [sD1, if_neg c_60]; exact hk) hs
  · refine aw_aload_n (pc' := 64) eX7_day_63 rfl rfl trivial ?_
    refine aw_iload_n (pc' := 65) eX7_day_64 rfl rfl ?_
    refine aw_iconst (pc' := 66) (v := 5) eX7_day_65 rfl (by decide) ?_
    refine aw_callv (pc' := 69) (nn := 2) (c_one (d := d - 1) hM i 5 (by omega) (by omega)) eX7_day_66 rfl ⟨q901, q904, q62⟩ q903 q22 ⟨rfl, by decide +kernel, by decide +kernel, by decide +kernel⟩ rfl (by rw [hM.2.1]; exact ⟨rfl, rfl⟩) rfl ⟨by omega, by decide⟩ ⟨by omega, by omega⟩ rfl (Nat.le_of_ble_eq_true rfl) (fun v4 h5 hq6 => ?_)
    obtain ⟨rfl, rfl⟩ := hq6
    dsimp only [Option.toList, List.cons_append, List.nil_append]
    refine aw_iload_n (pc' := 70) eX7_day_69 rfl rfl ?_
    refine aw_iadd (pc' := 71) eX7_day_70 rfl ?_
    refine aw_bipush (pc' := 73) (v := 12) eX7_day_71 rfl (by decide) ?_
    refine aw_irem (pc' := 74) eX7_day_73 rfl (by decide) ?_
    refine aw_istore_n (pc' := 75) eX7_day_74 rfl (by decide) ?_
    dsimp only [zst, zst2, zcut]
    refine aw_aload_n (pc' := 76) eX7_day_75 rfl rfl trivial ?_
    refine aw_iload_n (pc' := 77) eX7_day_76 rfl rfl ?_
    refine aw_iconst (pc' := 78) (v := 5) eX7_day_77 rfl (by decide) ?_
    refine aw_iload_n (pc' := 79) eX7_day_78 rfl rfl ?_
    refine aw_callv (pc' := 82) (nn := 3) (c_change (d := d - 1) hM i 5 _ (by omega) (by omega)) eX7_day_79 rfl ⟨q986, q989, q62⟩ q988 q43 ⟨rfl, by decide +kernel, by decide +kernel, by decide +kernel⟩ rfl (by rw [hM.2.1]; exact ⟨rfl, rfl⟩) rfl ⟨by omega, by decide⟩ ⟨by omega, by omega⟩ rfl (Nat.le_of_ble_eq_true rfl) (fun v9 h10 hq11 => ?_)
    obtain ⟨rfl, hM7, hs8⟩ := hq11
    dsimp only [Option.toList, List.cons_append, List.nil_append]
    refine aw_pop (pc' := 83) eX7_day_82 rfl rfl ?_
    have e61 : ∀ x : Int32, (mup U1 1 (10 * i + 5) x).1 1 61 = U1.1 1 61 := fun x => by rw [mup1, upd_ne (by omega)]
    refine aw_aload_n (pc' := 84) eX7_day_83 rfl rfl trivial ?_
    refine aw_iload_n (pc' := 85) eX7_day_84 rfl rfl ?_
    refine aw_iconst (pc' := 86) (v := 3) eX7_day_85 rfl (by decide) ?_
    refine aw_aload_n (pc' := 87) eX7_day_86 rfl rfl trivial ?_
    refine aw_Mref (pc' := 90) (kf := 0) 1 hM7 eX7_day_87 rfl (by decide) rfl q789 ?_
    refine aw_bipush (pc' := 92) (v := 61) eX7_day_90 rfl (by decide) ?_
    refine aw_MaldC (pc' := 93) 1 61 hM7 eX7_day_92 rfl (by decide) (by unfold vp_in; decide) (by decide) ?_
    refine aw_iload_n (pc' := 94) eX7_day_93 rfl rfl ?_
    refine aw_ishr (pc' := 95) eX7_day_94 rfl ?_
    refine aw_iconst (pc' := 96) (v := 1) eX7_day_95 rfl (by decide) ?_
    refine aw_iand (pc' := 97) eX7_day_96 rfl ?_
    refine aw_iconst (pc' := 98) (v := 1) eX7_day_97 rfl (by decide) ?_
    refine aw_icmp_ne (pc' := 101) (tgt := 105) eX7_day_98 rfl (by decide) (fun c_98 => ?_) (fun c_98 => ?_)
    · refine aw_iconst (pc' := 106) (v := 2) eX7_day_105 rfl (by decide) ?_
      refine aw_callv (pc' := 109) (nn := 3) (c_change (d := d - 1) hM7 i 3 _ (by omega) (by omega)) eX7_day_106 rfl ⟨q986, q989, q62⟩ q988 q43 ⟨rfl, by decide +kernel, by decide +kernel, by decide +kernel⟩ rfl (by rw [hM7.2.1]; exact ⟨rfl, rfl⟩) rfl ⟨by omega, by decide⟩ ⟨by omega, by omega⟩ rfl (Nat.le_of_ble_eq_true rfl) (fun v14 h15 hq16 => ?_)
      obtain ⟨rfl, hM12, hs13⟩ := hq16
      have hT17 := hs8.tr hs13
      dsimp only [Option.toList, List.cons_append, List.nil_append]
      refine aw_pop (pc' := 110) eX7_day_109 rfl rfl ?_
      simp only [zb_eq0, Bool.not_eq_false, Bool.not_eq_true, decide_eq_true_eq, decide_eq_false_iff_not, Decidable.not_not] at c_60
      rw [e61] at c_98
      refine kk _ _ _ hM12 ?_ (hs.tr hT17)
      rw [sD1, if_pos c_60]
      rw [if_neg (by exact c_98)]
      exact hk.up.up
    · refine aw_iconst (pc' := 102) (v := 3) eX7_day_101 rfl (by decide) ?_
      refine aw_goto eX7_day_102 (by decide) (tgt := 106) ?_
      refine aw_callv (pc' := 109) (nn := 3) (c_change (d := d - 1) hM7 i 3 _ (by omega) (by omega)) eX7_day_106 rfl ⟨q986, q989, q62⟩ q988 q43 ⟨rfl, by decide +kernel, by decide +kernel, by decide +kernel⟩ rfl (by rw [hM7.2.1]; exact ⟨rfl, rfl⟩) rfl ⟨by omega, by decide⟩ ⟨by omega, by omega⟩ rfl (Nat.le_of_ble_eq_true rfl) (fun v20 h21 hq22 => ?_)
      obtain ⟨rfl, hM18, hs19⟩ := hq22
      have hT23 := hs8.tr hs19
      dsimp only [Option.toList, List.cons_append, List.nil_append]
      refine aw_pop (pc' := 110) eX7_day_109 rfl rfl ?_
      simp only [zb_eq0, Bool.not_eq_false, Bool.not_eq_true, decide_eq_true_eq, decide_eq_false_iff_not, Decidable.not_not] at c_60
      rw [e61] at c_98
      refine kk _ _ _ hM18 ?_ (hs.tr hT23)
      rw [sD1, if_pos c_60]
      rw [if_pos (by first | exact c_98 | exact Decidable.not_not.mp c_98)]
      exact hk.up.up
theorem dy2 {i : Nat} (hi : i < 6) {cur : Int32} (hd : 2 ≤ d) {h0 : Hp} (o3 : Option Value) (kk : ∀ h' U', MAt h' u U' → MK n (sD2 i (U1.1 1)) U U' → Same u 19 h0 h' → AW l G mX7_day d 0 0 Q 0 0 h' [some (.ref u), some (.int cur), some (.int (nI i)), o3] [] 143) (hk : MK n (U1.1 1) U U1) (hM : MAt h u U1) (hs : Same u 19 h0 h) : AW l G mX7_day d 0 0 Q 0 0 h [some (.ref u), some (.int cur), some (.int (nI i)), o3] [] 110 := by
  refine aw_aload_n (pc' := 111) eX7_day_110 rfl rfl trivial ?_
  refine aw_iload_n (pc' := 112) eX7_day_111 rfl rfl ?_
  refine aw_iconst (pc' := 113) (v := 3) eX7_day_112 rfl (by decide) ?_
  refine aw_callv (pc' := 116) (nn := 2) (c_isAs (d := d - 1) hM i 3 (by omega) (by omega)) eX7_day_113 rfl ⟨q957, q960, q62⟩ q959 q36 ⟨rfl, by decide +kernel, by decide +kernel, by decide +kernel⟩ rfl (by rw [hM.2.1]; exact ⟨rfl, rfl⟩) rfl ⟨by omega, by decide⟩ ⟨by omega, by omega⟩ rfl (Nat.le_of_ble_eq_true rfl) (fun v1 h2 hq3 => ?_)
  obtain ⟨rfl, rfl⟩ := hq3
  dsimp only [Option.toList, List.cons_append, List.nil_append]
  refine aw_if_eq (pc' := 119) (tgt := 143) eX7_day_116 rfl (by decide) (fun c_116 => ?_) (fun c_116 => ?_)
  · simp only [zb_eq0, Bool.not_eq_false, Bool.not_eq_true, decide_eq_true_eq, decide_eq_false_iff_not, Decidable.not_not] at c_116
    exact kk _ _ hM (by rw [sD2, if_neg (fun z => c_116 z.1)]; exact hk) hs
  · refine aw_aload_n (pc' := 120) eX7_day_119 rfl rfl trivial ?_
    refine aw_iload_n (pc' := 121) eX7_day_120 rfl rfl ?_
    refine aw_iconst (pc' := 122) (v := 5) eX7_day_121 rfl (by decide) ?_
    refine aw_callv (pc' := 125) (nn := 2) (c_one (d := d - 1) hM i 5 (by omega) (by omega)) eX7_day_122 rfl ⟨q901, q904, q62⟩ q903 q22 ⟨rfl, by decide +kernel, by decide +kernel, by decide +kernel⟩ rfl (by rw [hM.2.1]; exact ⟨rfl, rfl⟩) rfl ⟨by omega, by decide⟩ ⟨by omega, by omega⟩ rfl (Nat.le_of_ble_eq_true rfl) (fun v4 h5 hq6 => ?_)
    obtain ⟨rfl, rfl⟩ := hq6
    dsimp only [Option.toList, List.cons_append, List.nil_append]
    refine aw_aload_n (pc' := 126) eX7_day_125 rfl rfl trivial ?_
    refine aw_Mref (pc' := 129) (kf := 0) 1 hM eX7_day_126 rfl (by decide) rfl q789 ?_
    refine aw_bipush (pc' := 131) (v := 62) eX7_day_129 rfl (by decide) ?_
    refine aw_MaldC (pc' := 132) 1 62 hM eX7_day_131 rfl (by decide) (by unfold vp_in; decide) (by decide) ?_
    refine aw_icmp_ne (pc' := 135) (tgt := 143) eX7_day_132 rfl (by decide) (fun c_132 => ?_) (fun c_132 => ?_)
    · simp only [zb_eq0, Bool.not_eq_false, Bool.not_eq_true, decide_eq_true_eq, decide_eq_false_iff_not, Decidable.not_not] at c_116
      exact kk _ _ hM (by rw [sD2, if_neg (fun z => c_132 z.2)]; exact hk) hs
    · refine aw_aload_n (pc' := 136) eX7_day_135 rfl rfl trivial ?_
      refine aw_iload_n (pc' := 137) eX7_day_136 rfl rfl ?_
      refine aw_iconst (pc' := 138) (v := 3) eX7_day_137 rfl (by decide) ?_
      refine aw_iconst (pc' := 139) (v := 4) eX7_day_138 rfl (by decide) ?_
      refine aw_callv (pc' := 142) (nn := 3) (c_change (d := d - 1) hM i 3 4 (by omega) (by omega)) eX7_day_139 rfl ⟨q986, q989, q62⟩ q988 q43 ⟨rfl, by decide +kernel, by decide +kernel, by decide +kernel⟩ rfl (by rw [hM.2.1]; exact ⟨rfl, rfl⟩) rfl ⟨by omega, by decide⟩ ⟨by omega, by omega⟩ rfl (Nat.le_of_ble_eq_true rfl) (fun v9 h10 hq11 => ?_)
      obtain ⟨rfl, hM7, hs8⟩ := hq11
      dsimp only [Option.toList, List.cons_append, List.nil_append]
      refine aw_pop (pc' := 143) eX7_day_142 rfl rfl ?_
      simp only [zb_eq0, Bool.not_eq_false, Bool.not_eq_true, decide_eq_true_eq, decide_eq_false_iff_not, Decidable.not_not] at c_116
      exact kk _ _ hM7 (by rw [sD2, if_pos ⟨c_116, by first | exact c_132 | exact Decidable.not_not.mp c_132⟩]; exact hk.up) (hs.tr hs8)
theorem dy3 {i : Nat} (hi : i < 6) {cur : Int32} (hd : 2 ≤ d) {h0 : Hp} (o3 : Option Value) (kk : ∀ h' U', MAt h' u U' → MK n (sD3 i (U1.1 1)) U U' → Same u 19 h0 h' → AW l G mX7_day d 0 0 Q 0 0 h' [some (.ref u), some (.int cur), some (.int (nI i)), o3] [] 167) (hk : MK n (U1.1 1) U U1) (hM : MAt h u U1) (hs : Same u 19 h0 h) : AW l G mX7_day d 0 0 Q 0 0 h [some (.ref u), some (.int cur), some (.int (nI i)), o3] [] 143 := by
  refine aw_aload_n (pc' := 144) eX7_day_143 rfl rfl trivial ?_
  refine aw_iload_n (pc' := 145) eX7_day_144 rfl rfl ?_
  refine aw_iconst (pc' := 146) (v := 1) eX7_day_145 rfl (by decide) ?_
  refine aw_callv (pc' := 149) (nn := 2) (c_isAs (d := d - 1) hM i 1 (by omega) (by omega)) eX7_day_146 rfl ⟨q957, q960, q62⟩ q959 q36 ⟨rfl, by decide +kernel, by decide +kernel, by decide +kernel⟩ rfl (by rw [hM.2.1]; exact ⟨rfl, rfl⟩) rfl ⟨by omega, by decide⟩ ⟨by omega, by omega⟩ rfl (Nat.le_of_ble_eq_true rfl) (fun v1 h2 hq3 => ?_)
  obtain ⟨rfl, rfl⟩ := hq3
  dsimp only [Option.toList, List.cons_append, List.nil_append]
  refine aw_if_eq (pc' := 152) (tgt := 167) eX7_day_149 rfl (by decide) (fun c_149 => ?_) (fun c_149 => ?_)
  · simp only [zb_eq0, Bool.not_eq_false, Bool.not_eq_true, decide_eq_true_eq, decide_eq_false_iff_not, Decidable.not_not] at c_149
    exact kk _ _ hM (by rw [sD3, if_neg c_149]; exact hk) hs
  · refine aw_aload_n (pc' := 153) eX7_day_152 rfl rfl trivial ?_
    refine aw_iload_n (pc' := 154) eX7_day_153 rfl rfl ?_
    refine aw_iconst (pc' := 155) (v := 4) eX7_day_154 rfl (by decide) ?_
    refine aw_aload_n (pc' := 156) eX7_day_155 rfl rfl trivial ?_
    refine aw_iload_n (pc' := 157) eX7_day_156 rfl rfl ?_
    refine aw_iconst (pc' := 158) (v := 4) eX7_day_157 rfl (by decide) ?_
    refine aw_callv (pc' := 161) (nn := 2) (c_one (d := d - 1) hM i 4 (by omega) (by omega)) eX7_day_158 rfl ⟨q901, q904, q62⟩ q903 q22 ⟨rfl, by decide +kernel, by decide +kernel, by decide +kernel⟩ rfl (by rw [hM.2.1]; exact ⟨rfl, rfl⟩) rfl ⟨by omega, by decide⟩ ⟨by omega, by omega⟩ rfl (Nat.le_of_ble_eq_true rfl) (fun v4 h5 hq6 => ?_)
    obtain ⟨rfl, rfl⟩ := hq6
    dsimp only [Option.toList, List.cons_append, List.nil_append]
    refine aw_iconst (pc' := 162) (v := 1) eX7_day_161 rfl (by decide) ?_
    refine aw_iadd (pc' := 163) eX7_day_162 rfl ?_
    refine aw_callv (pc' := 166) (nn := 3) (c_change (d := d - 1) hM i 4 _ (by omega) (by omega)) eX7_day_163 rfl ⟨q986, q989, q62⟩ q988 q43 ⟨rfl, by decide +kernel, by decide +kernel, by decide +kernel⟩ rfl (by rw [hM.2.1]; exact ⟨rfl, rfl⟩) rfl ⟨by omega, by decide⟩ ⟨by omega, by omega⟩ rfl (Nat.le_of_ble_eq_true rfl) (fun v9 h10 hq11 => ?_)
    obtain ⟨rfl, hM7, hs8⟩ := hq11
    dsimp only [Option.toList, List.cons_append, List.nil_append]
    refine aw_pop (pc' := 167) eX7_day_166 rfl rfl ?_
    simp only [zb_eq0, Bool.not_eq_false, Bool.not_eq_true, decide_eq_true_eq, decide_eq_false_iff_not, Decidable.not_not] at c_149
    exact kk _ _ hM7 (by rw [sD3, if_pos c_149]; exact hk.up) (hs.tr hs8)
theorem lp_X7_day (hm : g 60 = nI m) (hm6 : m ≤ 6) {cur : Int32} (hd : 2 ≤ d) {h0 : Hp} (hQ : ∀ h' U' o, MAt h' u U' → MK n (sDs cur g m) U U' → Same u 19 h0 h' → AW l G mX7_day d 0 0 Q 0 0 h' [some (.ref u), some (.int cur), some (.int (nI m)), o] [] 173) : ∀ (j i : Nat) (y : Int32) (o : Option Value) (h : Hp) (U1 : MS), j = m - i → i ≤ m → y = nI i → MK n (sDs cur g i) U U1 → MAt h u U1 → Same u 19 h0 h → AW l G mX7_day d 0 0 Q 0 0 h [some (.ref u), some (.int cur), some (.int y), o] [] 43 := by
  intro j
  induction j using Nat.strongRecOn with
  | _ j ih =>
    intro i y o h U1 hj hi hy hk hM hs
    subst hy
    have e60 : sDs cur g i 60 = nI m := (sDs_hi (by omega) i (by omega)).trans hm
    refine aw_iload_n (pc' := 44) eX7_day_43 rfl rfl ?_
    refine aw_aload_n (pc' := 45) eX7_day_44 rfl rfl trivial ?_
    refine aw_Mref (pc' := 48) (kf := 0) 1 hM eX7_day_45 rfl (by decide) rfl q789 ?_
    refine aw_bipush (pc' := 50) (v := 60) eX7_day_48 rfl (by decide) ?_
    refine aw_MaldC (pc' := 51) 1 60 hM eX7_day_50 rfl (by decide) (by unfold vp_in; decide) (by decide) ?_
    refine aw_icmp_ge (pc' := 54) (tgt := 173) eX7_day_51 rfl (by decide) (fun c_51 => ?_) (fun c_51 => ?_)
    · rw [hk.1, e60] at c_51
      have c9 := ge_nI (by omega) (by omega) c_51
      obtain rfl : i = m := by omega
      exact hQ _ _ _ hM hk hs
    · rw [hk.1, e60] at c_51
      have c9 := nge_nI (by omega) (by omega) c_51
      refine dy1 (n := n) (i := i) (by omega) (by omega) (fun h1 V1 o m1 k1 s1 => ?_) _ (by rw [hk.1]; exact hk) hM hs
      rw [hk.1] at k1
      refine dy2 (n := n) (i := i) (by omega) (by omega) _ (fun h2 V2 m2 k2 s2 => ?_) (by rw [k1.1]; exact k1) m1 s1
      rw [k1.1] at k2
      refine dy3 (n := n) (i := i) (by omega) (by omega) _ (fun h3 V3 m3 k3 s3 => ?_) (by rw [k2.1]; exact k2) m2 s2
      rw [k2.1] at k3
      refine aw_iinc (pc' := 170) eX7_day_167 rfl rfl rfl (by decide) ?_
      dsimp only [zst, zst2, zcut]
      refine aw_goto eX7_day_170 (by decide) (tgt := 43) ?_
      exact ih (m - (i + 1)) (by omega) (i + 1) _ _ _ _ rfl (by omega) (nI_inc i) k3 m3 s3
theorem c_X7_day (hk : MK n g U U1) (hM : MAt h u U1) (hz : mZ U) (hg : gOk g m t) (hd : 24 ≤ d) : Ct l G mX7_day yX7_day d 0 0 [.ref u] h (fun r h' => r = none ∧ ∃ U', MAt h' u U' ∧ MK n (sDay (mRd U) m t g) U U' ∧ Same u 19 h h') := by
  refine ct_of (lv := [some (.ref u), none, none, none]) (by decide +kernel) rfl (fun z => by cases z) (fun _ => rfl) (fun _ => Nat.le_of_ble_eq_true rfl) ?_
  have hgg := hg
  obtain ⟨hm, hm6, ht, ht2, hgq⟩ := hgg
  refine aw_aload_n (pc' := 1) eX7_day_0 rfl rfl trivial ?_
  refine aw_callv (pc' := 4) (nn := 0) (c_X7_bringUp (d := d - 1) hk hM hz hg (by omega)) eX7_day_1 rfl ⟨q974, q977, q62⟩ q976 q40 ⟨rfl, by decide +kernel, by decide +kernel, by decide +kernel⟩ rfl (by rw [hM.2.1]; exact ⟨rfl, rfl⟩) rfl ⟨by omega, by decide⟩ ⟨by omega, by omega⟩ rfl (Nat.le_of_ble_eq_true rfl) (fun v3 h4 hq5 => ?_)
  obtain ⟨rfl, V, hM1, k2, hs2⟩ := hq5
  dsimp only [Option.toList, List.cons_append, List.nil_append]
  have e67 : V.1 1 67 = nI t := by rw [k2.1, sBring_hi hm6 (by omega)]; exact ht
  have e4 : V.1 1 67 - V.1 1 67 / 4 * 4 = nI (t % 4) := by rw [e67]; exact pk_rem (d := 4) (by omega) (by omega) (by omega)
  have hx63 : (63 + nI (t % 4)).toNatClampNeg = 63 + t % 4 := (ixa (c := 63) (by omega)).1
  have hv63 : vp_in (63 + nI (t % 4)) 123 := (ixa (c := 63) (by omega)).2
  refine aw_aload_n (pc' := 5) eX7_day_4 rfl rfl trivial ?_
  refine aw_Mref (pc' := 8) (kf := 0) 1 hM1 eX7_day_5 rfl (by decide) rfl q789 ?_
  refine aw_bipush (pc' := 10) (v := 63) eX7_day_8 rfl (by decide) ?_
  refine aw_aload_n (pc' := 11) eX7_day_10 rfl rfl trivial ?_
  refine aw_Mref (pc' := 14) (kf := 0) 1 hM1 eX7_day_11 rfl (by decide) rfl q789 ?_
  refine aw_bipush (pc' := 16) (v := 67) eX7_day_14 rfl (by decide) ?_
  refine aw_MaldC (pc' := 17) 1 67 hM1 eX7_day_16 rfl (by decide) (by unfold vp_in; decide) (by decide) ?_
  refine aw_iconst (pc' := 18) (v := 4) eX7_day_17 rfl (by decide) ?_
  refine aw_irem (pc' := 19) eX7_day_18 rfl (by decide) ?_
  rw [e4]
  refine aw_iadd (pc' := 20) eX7_day_19 rfl ?_
  refine aw_MaldC (pc' := 21) 1 (63 + t % 4) hM1 eX7_day_20 rfl (by decide) hv63 hx63 ?_
  refine aw_istore_n (pc' := 22) eX7_day_21 rfl (by decide) ?_
  dsimp only [zst, zst2, zcut]
  refine aw_aload_n (pc' := 23) eX7_day_22 rfl rfl trivial ?_
  refine aw_Mref (pc' := 26) (kf := 0) 1 hM1 eX7_day_23 rfl (by decide) rfl q789 ?_
  refine aw_bipush (pc' := 28) (v := 62) eX7_day_26 rfl (by decide) ?_
  refine aw_aload_n (pc' := 29) eX7_day_28 rfl rfl trivial ?_
  refine aw_Mref (pc' := 32) (kf := 0) 1 hM1 eX7_day_29 rfl (by decide) rfl q789 ?_
  refine aw_bipush (pc' := 34) (v := 62) eX7_day_32 rfl (by decide) ?_
  refine aw_MaldC (pc' := 35) 1 62 hM1 eX7_day_34 rfl (by decide) (by unfold vp_in; decide) (by decide) ?_
  refine aw_iconst (pc' := 36) (v := 1) eX7_day_35 rfl (by decide) ?_
  refine aw_iadd (pc' := 37) eX7_day_36 rfl ?_
  refine aw_bipush (pc' := 39) (v := 12) eX7_day_37 rfl (by decide) ?_
  refine aw_irem (pc' := 40) eX7_day_39 rfl (by decide) ?_
  refine aw_MastC (pc' := 41) 1 62 hM1 eX7_day_40 rfl (by decide) (by unfold vp_in; decide) (by decide) (fun h8 hM6 hs7 => ?_)
  have hT9 := hs2.tr hs7
  refine aw_iconst (pc' := 42) (v := 0) eX7_day_41 rfl (by decide) ?_
  refine aw_istore_n (pc' := 43) eX7_day_42 rfl (by decide) ?_
  dsimp only [zst, zst2, zcut]
  have eC : V.1 1 (63 + t % 4) = g (63 + t % 4) := by rw [k2.1, sBring_hi hm6 (by omega)]
  have eD : sDay (mRd U) m t g = upd (sDs (V.1 1 (63 + t % 4)) (sFi (V.1 1)) m) 67 (nI (t + 1)) := by rw [sDay, eC, k2.1]
  have kf : MK n (sFi (V.1 1)) U (mup V 1 62 (jr (V.1 1 62 + 1) 12)) := MK.up (by rw [k2.1]; exact k2)
  refine lp_X7_day (n := n) (U := U) (g := sFi (V.1 1)) (cur := V.1 1 (63 + t % 4)) (by rw [sFi, upd_ne (by decide), k2.1, sBring_hi hm6 (by omega)]; exact hm) hm6 (by omega) (fun h' V9 o m9 k9 s9 => ?_) m 0 _ _ _ _ (by omega) (by omega) rfl kf hM6 hT9
  refine aw_aload_n (pc' := 174) eX7_day_173 rfl rfl trivial ?_
  refine aw_Mref (pc' := 177) (kf := 0) 1 m9 eX7_day_174 rfl (by decide) rfl q789 ?_
  refine aw_bipush (pc' := 179) (v := 67) eX7_day_177 rfl (by decide) ?_
  refine aw_dup2 (pc' := 180) eX7_day_179 rfl rfl rfl ?_
  refine aw_MaldC (pc' := 181) 1 67 m9 eX7_day_180 rfl (by decide) (by unfold vp_in; decide) (by decide) ?_
  refine aw_iconst (pc' := 182) (v := 1) eX7_day_181 rfl (by decide) ?_
  refine aw_iadd (pc' := 183) eX7_day_182 rfl ?_
  refine aw_MastC (pc' := 184) 1 67 m9 eX7_day_183 rfl (by decide) (by unfold vp_in; decide) (by decide) (fun h3 hM1 hs2 => ?_)
  have hT4 := s9.tr hs2
  refine aw_ret (v := none) eX7_day_184 rfl (by omega) (by omega) rfl ?_
  exact ⟨rfl, _, hM1, by
    have z := k9.up (k := 67) (x := nI (t + 1))
    rw [← eD] at z
    have y : (V9.1 1 67 : Int32) + 1 = nI (t + 1) := by rw [k9.1, k2.1, sDs_hi (by omega) m hm6, sFi, upd_ne (by decide), sBring_hi hm6 (by omega), ht]; exact nI_1 t
    rw [y]
    exact z, hT4⟩
abbrev mX7_days : MT := (RX7, cX7_days, 3, none, false)
theorem eX7_days_0 : decode mX7_days.2.1 0 = .ok (.iconst 0, 1) := by decide +kernel
theorem eX7_days_1 : decode mX7_days.2.1 1 = .ok (.istore_n 2, 1) := by decide +kernel
theorem eX7_days_2 : decode mX7_days.2.1 2 = .ok (.iload_n 2, 1) := by decide +kernel
theorem eX7_days_3 : decode mX7_days.2.1 3 = .ok (.iload_n 1, 1) := by decide +kernel
theorem eX7_days_4 : decode mX7_days.2.1 4 = .ok (.if_icmp .ge 13, 3) := by decide +kernel
theorem eX7_days_7 : decode mX7_days.2.1 7 = .ok (.aload_n 0, 1) := by decide +kernel
theorem eX7_days_8 : decode mX7_days.2.1 8 = .ok (.invokevirtual 200, 3) := by decide +kernel
theorem eX7_days_11 : decode mX7_days.2.1 11 = .ok (.iinc 2 1, 3) := by decide +kernel
theorem eX7_days_14 : decode mX7_days.2.1 14 = .ok (.goto (-12), 3) := by decide +kernel
theorem eX7_days_17 : decode mX7_days.2.1 17 = .ok (.return_, 1) := by decide +kernel
theorem lp_X7_days (hz : mZ U) (hd : 25 ≤ d) {x : Nat} (hx : x ≤ 1000) {h0 : Hp} : ∀ (k q t : Nat) (y : Int32) (g : Nat → Int32) (h : Hp) (U1 : MS), q + k = x → y = nI q → gOk g m t → t + k ≤ 1073741824 → MK n g U U1 → MAt h u U1 → Same u 19 h0 h → (∀ h' U', MAt h' u U' → MK n (sDys (mRd U) m k t g) U U' → Same u 19 h0 h' → Q none h') → AW l G mX7_days d 0 0 Q 0 0 h [some (.ref u), some (.int (nI x)), some (.int y)] [] 2 := by
  intro k
  induction k using Nat.strongRecOn with
  | _ k ih =>
    intro q t y g h U1 hqk hy hg htk hk hM hs hQ
    subst hy
    refine aw_iload_n (pc' := 3) eX7_days_2 rfl rfl ?_
    refine aw_iload_n (pc' := 4) eX7_days_3 rfl rfl ?_
    refine aw_icmp_ge (pc' := 7) (tgt := 17) eX7_days_4 rfl (by decide) (fun c_4 => ?_) (fun c_4 => ?_)
    · refine aw_ret (v := none) eX7_days_17 rfl (by omega) (by omega) rfl ?_
      have c9 := ge_nI (by omega) (by omega) c_4
      obtain rfl : k = 0 := by omega
      exact hQ _ _ hM hk hs
    · have c9 := nge_nI (by omega) (by omega) c_4
      refine aw_aload_n (pc' := 8) eX7_days_7 rfl rfl trivial ?_
      refine aw_callv (pc' := 11) (nn := 0) (c_X7_day (d := d - 1) hk hM hz hg (by omega)) eX7_days_8 rfl ⟨q970, q973, q62⟩ q972 q39 ⟨rfl, by decide +kernel, by decide +kernel, by decide +kernel⟩ rfl (by rw [hM.2.1]; exact ⟨rfl, rfl⟩) rfl ⟨by omega, by decide⟩ ⟨by omega, by omega⟩ rfl (Nat.le_of_ble_eq_true rfl) (fun v3 h4 hq5 => ?_)
      obtain ⟨rfl, V, hM1, k2, hs2⟩ := hq5
      dsimp only [Option.toList, List.cons_append, List.nil_append]
      refine aw_iinc (pc' := 14) eX7_days_11 rfl rfl rfl (by decide) ?_
      dsimp only [zst, zst2, zcut]
      refine aw_goto eX7_days_14 (by decide) (tgt := 2) ?_
      obtain ⟨j, rfl⟩ : ∃ j, k = j + 1 := ⟨k - 1, by omega⟩
      exact ih j (by omega) (q + 1) (t + 1) _ _ _ _ (by omega) (nI_inc q) (sDay_ok hg (by omega)) (by omega) k2 hM1 (hs.tr hs2) hQ
theorem c_X7_days (hk : MK n g U U1) (hM : MAt h u U1) (hz : mZ U) (hg : gOk g m t) {x : Nat} (hx : x ≤ 1000) (htx : t + x ≤ 1073741824) (hd : 25 ≤ d) : Ct l G mX7_days yX7_days d 0 0 [.ref u, .int (nI x)] h (fun r h' => r = none ∧ ∃ U', MAt h' u U' ∧ MK n (sDys (mRd U) m x t g) U U' ∧ Same u 19 h h') := by
  refine ct_of (lv := [some (.ref u), some (.int (nI x)), none]) (by decide +kernel) rfl (fun z => by cases z) (fun _ => rfl) (fun _ => Nat.le_of_ble_eq_true rfl) ?_
  refine aw_iconst (pc' := 1) (v := 0) eX7_days_0 rfl (by decide) ?_
  refine aw_istore_n (pc' := 2) eX7_days_1 rfl (by decide) ?_
  dsimp only [zst, zst2, zcut]
  exact lp_X7_days hz hd hx x 0 t _ g _ _ (by omega) rfl hg htx hk hM Same.rf (fun h' U' a b c => ⟨rfl, U', a, b, c⟩)
end M15
end
section
/-! the model: when one comes up, by which current, after whom -/
section M16
variable {l : Launch} {G : GT} {u : Nat} {U U1 : MS} {d n m t : Nat} {g : Nat → Int32} {h : Hp} {Q : Option Value → Hp → Prop}
theorem MK.mg {n : Nat} {g g' : Nat → Int32} {U U1 : MS} (a : MK n g U U1) : MK n g' U (mg U1 g') :=
  ⟨mg_1 _ _, fun j hj => by rw [mg_ne (by unfold msv at hj; omega)]; exact a.2.1 j hj, a.2.2⟩
/-- a trial: kept in mind, gone on with, and as it was again -/
theorem MK.tri {n : Nat} {g g' : Nat → Int32} {U U1 U2 : MS} (a : MK n g U U1) (hn : 1 ≤ n) (b : MK 0 g' (mset U1 2 (U1.1 1)) U2) : MK n g U (mset U2 1 (U2.1 2)) := by
  refine ⟨?_, fun j hj => ?_, fun k hk => (b.2.2.1 k hk).trans (a.2.2.1 k hk), b.2.2.2.trans a.2.2.2⟩
  · rw [mset_eq, b.2.1 2 (by unfold msv; omega), mset_eq]
    exact a.1
  · have h1 : j ≠ 1 := by unfold msv at hj; omega
    have h2 : j ≠ 2 := by unfold msv at hj; omega
    rw [mset_ne h1, b.2.1 j (by unfold msv at hj ⊢; omega), mset_ne h2]
    exact a.2.1 j hj
theorem MK.m2 {n : Nat} {g : Nat → Int32} {U U1 : MS} (a : MK n g U U1) (hn : 1 ≤ n) : MK n g U (mset U1 2 (U1.1 1)) :=
  ⟨a.1, fun j hj => by rw [mset_ne (by unfold msv at hj; omega)]; exact a.2.1 j hj, a.2.2⟩
theorem MK.b0 {g : Nat → Int32} {U1 : MS} (e : U1.1 1 = g) : MK 0 g (mset U1 2 (U1.1 1)) (mset U1 2 (U1.1 1)) := ⟨e, fun _ _ => rfl, fun _ _ => rfl, rfl⟩
theorem mRd_K {n : Nat} {g' : Nat → Int32} {U U1 : MS} (a : MK n g' U U1) : mRd U1 = mRd U := by
  funext g i
  exact mRd_k a i
/-- how many days till one is there: of k days more, the n-th -/
def sCome (F : FT) (m : Nat) (st : Int32) (i : Nat) : Nat → Nat → Nat → (Nat → Int32) → Int32
  | 0, _, _, _ => -5
  | k + 1, n, t, g => if st ≤ g (10 * i + 3) then nI n else sCome F m st i k (n + 1) (t + 1) (sDay F m t g)

abbrev mX7_comes : MT := (RX7, cX7_comes, 5, (some .int), false)
theorem eX7_comes_0 : decode mX7_comes.2.1 0 = .ok (.aload_n 0, 1) := by decide +kernel
theorem eX7_comes_1 : decode mX7_comes.2.1 1 = .ok (.getfield 15, 3) := by decide +kernel
theorem eX7_comes_4 : decode mX7_comes.2.1 4 = .ok (.aload_n 0, 1) := by decide +kernel
theorem eX7_comes_5 : decode mX7_comes.2.1 5 = .ok (.getfield 19, 3) := by decide +kernel
theorem eX7_comes_8 : decode mX7_comes.2.1 8 = .ok (.invokestatic 76, 3) := by decide +kernel
theorem eX7_comes_11 : decode mX7_comes.2.1 11 = .ok (.bipush (-5), 2) := by decide +kernel
theorem eX7_comes_13 : decode mX7_comes.2.1 13 = .ok (.istore_n 3, 1) := by decide +kernel
theorem eX7_comes_14 : decode mX7_comes.2.1 14 = .ok (.iconst 0, 1) := by decide +kernel
theorem eX7_comes_15 : decode mX7_comes.2.1 15 = .ok (.istore 4, 2) := by decide +kernel
theorem eX7_comes_17 : decode mX7_comes.2.1 17 = .ok (.iload 4, 2) := by decide +kernel
theorem eX7_comes_19 : decode mX7_comes.2.1 19 = .ok (.bipush 60, 2) := by decide +kernel
theorem eX7_comes_21 : decode mX7_comes.2.1 21 = .ok (.if_icmp .gt 37, 3) := by decide +kernel
theorem eX7_comes_24 : decode mX7_comes.2.1 24 = .ok (.iload_n 3, 1) := by decide +kernel
theorem eX7_comes_25 : decode mX7_comes.2.1 25 = .ok (.bipush (-5), 2) := by decide +kernel
theorem eX7_comes_27 : decode mX7_comes.2.1 27 = .ok (.if_icmp .ne 31, 3) := by decide +kernel
theorem eX7_comes_30 : decode mX7_comes.2.1 30 = .ok (.aload_n 0, 1) := by decide +kernel
theorem eX7_comes_31 : decode mX7_comes.2.1 31 = .ok (.iload_n 1, 1) := by decide +kernel
theorem eX7_comes_32 : decode mX7_comes.2.1 32 = .ok (.iconst 3, 1) := by decide +kernel
theorem eX7_comes_33 : decode mX7_comes.2.1 33 = .ok (.invokevirtual 84, 3) := by decide +kernel
theorem eX7_comes_36 : decode mX7_comes.2.1 36 = .ok (.iload_n 2, 1) := by decide +kernel
theorem eX7_comes_37 : decode mX7_comes.2.1 37 = .ok (.if_icmp .lt 8, 3) := by decide +kernel
theorem eX7_comes_40 : decode mX7_comes.2.1 40 = .ok (.iload 4, 2) := by decide +kernel
theorem eX7_comes_42 : decode mX7_comes.2.1 42 = .ok (.goto 5, 3) := by decide +kernel
theorem eX7_comes_45 : decode mX7_comes.2.1 45 = .ok (.bipush (-5), 2) := by decide +kernel
theorem eX7_comes_47 : decode mX7_comes.2.1 47 = .ok (.istore_n 3, 1) := by decide +kernel
theorem eX7_comes_48 : decode mX7_comes.2.1 48 = .ok (.aload_n 0, 1) := by decide +kernel
theorem eX7_comes_49 : decode mX7_comes.2.1 49 = .ok (.invokevirtual 200, 3) := by decide +kernel
theorem eX7_comes_52 : decode mX7_comes.2.1 52 = .ok (.iinc 4 1, 3) := by decide +kernel
theorem eX7_comes_55 : decode mX7_comes.2.1 55 = .ok (.goto (-38), 3) := by decide +kernel
theorem eX7_comes_58 : decode mX7_comes.2.1 58 = .ok (.aload_n 0, 1) := by decide +kernel
theorem eX7_comes_59 : decode mX7_comes.2.1 59 = .ok (.getfield 19, 3) := by decide +kernel
theorem eX7_comes_62 : decode mX7_comes.2.1 62 = .ok (.aload_n 0, 1) := by decide +kernel
theorem eX7_comes_63 : decode mX7_comes.2.1 63 = .ok (.getfield 15, 3) := by decide +kernel
theorem eX7_comes_66 : decode mX7_comes.2.1 66 = .ok (.invokestatic 76, 3) := by decide +kernel
theorem eX7_comes_69 : decode mX7_comes.2.1 69 = .ok (.iload_n 3, 1) := by decide +kernel
theorem eX7_comes_70 : decode mX7_comes.2.1 70 = .ok (.ireturn, 1) := by decide +kernel
theorem nI_gt {a b : Nat} (ha : a < 2 ^ 31) (hb : b < 2 ^ 31) (c : nI a > nI b) : b < a := (nI_ltI hb ha).mp c
theorem m5ne {q : Nat} (hq : q < 2 ^ 31) : ¬ nI q = -5 := fun z => by
  have y := congrArg Int32.toInt z
  rw [nI_toInt hq, show (-5 : Int32).toInt = -5 from by decide] at y
  omega
theorem lp_X7_comes (hz : mZ U) {F : FT} (hF : mRd U = F) (hd : 25 ≤ d) {i : Nat} (hi : i < 6) {st : Int32} {h0 : Hp} : ∀ (j q t : Nat) (y : Int32) (g : Nat → Int32) (h : Hp) (U1 : MS), q + j = 61 → y = nI q → gOk g m t → t + j ≤ 1073741824 → MK n g U U1 → MAt h u U1 → Same u 19 h0 h → (∀ h' U' g' y', MAt h' u U' → MK n g' U U' → Same u 19 h0 h' → AW l G mX7_comes d 0 0 Q 0 0 h' [some (.ref u), some (.int (nI i)), some (.int st), some (.int (sCome F m st i j q t g)), some (.int y')] [] 58) → AW l G mX7_comes d 0 0 Q 0 0 h [some (.ref u), some (.int (nI i)), some (.int st), some (.int (-5)), some (.int y)] [] 17 := by
  intro j
  induction j with
  | zero =>
    intro q t y g h U1 hqj hy hg htj hk hM hs hQ
    subst hy
    obtain rfl : q = 61 := by omega
    refine aw_iload (pc' := 19) eX7_comes_17 rfl rfl ?_
    refine aw_bipush (v := 60) (pc' := 21) eX7_comes_19 rfl (by decide) ?_
    refine aw_icmp_gt (pc' := 24) (tgt := 58) eX7_comes_21 rfl (by decide) (fun c_21 => ?_) (fun c_21 => ?_)
    · exact hQ _ _ _ _ hM hk hs
    · exact absurd (show nI 61 > 60 by decide) c_21
  | succ j ih =>
    intro q t y g h U1 hqj hy hg htj hk hM hs hQ
    subst hy
    refine aw_iload (pc' := 19) eX7_comes_17 rfl rfl ?_
    refine aw_bipush (pc' := 21) (v := 60) eX7_comes_19 rfl (by decide) ?_
    refine aw_icmp_gt (pc' := 24) (tgt := 58) eX7_comes_21 rfl (by decide) (fun c_21 => ?_) (fun c_21 => ?_)
    · exact absurd (nI_gt (a := q) (b := 60) (by omega) (by omega) c_21) (by omega)
    · refine aw_iload_n (pc' := 25) eX7_comes_24 rfl rfl ?_
      refine aw_bipush (pc' := 27) (v := -5) eX7_comes_25 rfl (by decide) ?_
      refine aw_icmp_ne (pc' := 30) (tgt := 58) eX7_comes_27 rfl (by decide) (fun c_27 => ?_) (fun c_27 => ?_)
      · exact absurd rfl c_27
      · refine aw_aload_n (pc' := 31) eX7_comes_30 rfl rfl trivial ?_
        refine aw_iload_n (pc' := 32) eX7_comes_31 rfl rfl ?_
        refine aw_iconst (pc' := 33) (v := 3) eX7_comes_32 rfl (by decide) ?_
        refine aw_callv (pc' := 36) (nn := 2) (c_one (d := d - 1) hM i 3 (by omega) (by omega)) eX7_comes_33 rfl ⟨q901, q904, q62⟩ q903 q22 ⟨rfl, by decide +kernel, by decide +kernel, by decide +kernel⟩ rfl (by rw [hM.2.1]; exact ⟨rfl, rfl⟩) rfl ⟨by omega, by decide⟩ ⟨by omega, by omega⟩ rfl (Nat.le_of_ble_eq_true rfl) (fun v1 h2 hq3 => ?_)
        obtain ⟨rfl, rfl⟩ := hq3
        dsimp only [Option.toList, List.cons_append, List.nil_append]
        refine aw_iload_n (pc' := 37) eX7_comes_36 rfl rfl ?_
        refine aw_icmp_lt (pc' := 40) (tgt := 45) eX7_comes_37 rfl (by decide) (fun c_37 => ?_) (fun c_37 => ?_)
        · refine aw_bipush (pc' := 47) (v := -5) eX7_comes_45 rfl (by decide) ?_
          refine aw_istore_n (pc' := 48) eX7_comes_47 rfl (by decide) ?_
          dsimp only [zst, zst2, zcut]
          refine aw_aload_n (pc' := 49) eX7_comes_48 rfl rfl trivial ?_
          refine aw_callv (pc' := 52) (nn := 0) (c_X7_day (d := d - 1) hk hM hz hg (by omega)) eX7_comes_49 rfl ⟨q970, q973, q62⟩ q972 q39 ⟨rfl, by decide +kernel, by decide +kernel, by decide +kernel⟩ rfl (by rw [hM.2.1]; exact ⟨rfl, rfl⟩) rfl ⟨by omega, by decide⟩ ⟨by omega, by omega⟩ rfl (Nat.le_of_ble_eq_true rfl) (fun v8 h9 hq10 => ?_)
          obtain ⟨rfl, V6, hM4, k7, hs5⟩ := hq10
          dsimp only [Option.toList, List.cons_append, List.nil_append]
          refine aw_iinc (pc' := 55) eX7_comes_52 rfl rfl rfl (by decide) ?_
          dsimp only [zst, zst2, zcut]
          refine aw_goto eX7_comes_55 (by decide) (tgt := 17) ?_
          rw [hk.1] at c_37
          have e : sCome F m st i (j + 1) q t g = sCome F m st i j (q + 1) (t + 1) (sDay F m t g) := by rw [sCome]; exact if_neg (Int32.not_le.mpr c_37)
          rw [e] at hQ
          rw [hF] at k7
          exact ih (q + 1) (t + 1) _ _ _ _ (by omega) (nI_inc q) (sDay_ok hg (by omega)) (by omega) k7 hM4 (hs.tr hs5) hQ
        · refine aw_iload (pc' := 42) eX7_comes_40 rfl rfl ?_
          refine aw_goto eX7_comes_42 (by decide) (tgt := 47) ?_
          refine aw_istore_n (pc' := 48) eX7_comes_47 rfl (by decide) ?_
          dsimp only [zst, zst2, zcut]
          refine aw_aload_n (pc' := 49) eX7_comes_48 rfl rfl trivial ?_
          refine aw_callv (pc' := 52) (nn := 0) (c_X7_day (d := d - 1) hk hM hz hg (by omega)) eX7_comes_49 rfl ⟨q970, q973, q62⟩ q972 q39 ⟨rfl, by decide +kernel, by decide +kernel, by decide +kernel⟩ rfl (by rw [hM.2.1]; exact ⟨rfl, rfl⟩) rfl ⟨by omega, by decide⟩ ⟨by omega, by omega⟩ rfl (Nat.le_of_ble_eq_true rfl) (fun v15 h16 hq17 => ?_)
          obtain ⟨rfl, V13, hM11, k14, hs12⟩ := hq17
          dsimp only [Option.toList, List.cons_append, List.nil_append]
          refine aw_iinc (pc' := 55) eX7_comes_52 rfl rfl rfl (by decide) ?_
          dsimp only [zst, zst2, zcut]
          refine aw_goto eX7_comes_55 (by decide) (tgt := 17) ?_
          refine aw_iload (pc' := 19) eX7_comes_17 rfl rfl ?_
          refine aw_bipush (pc' := 21) (v := 60) eX7_comes_19 rfl (by decide) ?_
          refine aw_icmp_gt (pc' := 24) (tgt := 58) eX7_comes_21 rfl (by decide) (fun c_21 => ?_) (fun c_21 => ?_)
          · rw [hk.1] at c_37
            have e : sCome F m st i (j + 1) q t g = nI q := by rw [sCome]; exact if_pos (by first | exact c_37 | exact Int32.not_lt.mp c_37)
            rw [e] at hQ
            exact hQ _ _ _ _ hM11 k14 (hs.tr hs12)
          · refine aw_iload_n (pc' := 25) eX7_comes_24 rfl rfl ?_
            refine aw_bipush (pc' := 27) (v := -5) eX7_comes_25 rfl (by decide) ?_
            refine aw_icmp_ne (pc' := 30) (tgt := 58) eX7_comes_27 rfl (by decide) (fun c_27 => ?_) (fun c_27 => ?_)
            · rw [hk.1] at c_37
              have e : sCome F m st i (j + 1) q t g = nI q := by rw [sCome]; exact if_pos (by first | exact c_37 | exact Int32.not_lt.mp c_37)
              rw [e] at hQ
              exact hQ _ _ _ _ hM11 k14 (hs.tr hs12)
            · exact absurd (show nI q = -5 from by first | exact c_27 | exact Decidable.not_not.mp c_27) (m5ne (by omega))
theorem c_X7_comes (hk : MK n g U U1) (hM : MAt h u U1) (hz : mZ U) (hg : gOk g m t) (hn : 1 ≤ n) {i : Nat} (hi : i < 6) (st : Int32) (ht6 : t ≤ 1000000000) (hd : 25 ≤ d) : Ct l G mX7_comes yX7_comes d 0 0 [.ref u, .int (nI i), .int st] h (fun r h' => r = some (.int (sCome (mRd U) m st i 61 0 t g)) ∧ ∃ U', MAt h' u U' ∧ MK n g U U' ∧ Same u 19 h h') := by
  refine ct_of (lv := [some (.ref u), some (.int (nI i)), some (.int st), none, none]) (by decide +kernel) rfl (fun z => by cases z) (fun _ => rfl) (fun _ => Nat.le_of_ble_eq_true rfl) ?_
  refine aw_aload_n (pc' := 1) eX7_comes_0 rfl rfl trivial ?_
  refine aw_Mref (pc' := 4) (kf := 0) 1 hM eX7_comes_1 rfl (by decide) rfl q789 ?_
  refine aw_aload_n (pc' := 5) eX7_comes_4 rfl rfl trivial ?_
  refine aw_Mref (pc' := 8) (kf := 1) 2 hM eX7_comes_5 rfl (by decide) rfl q790 ?_
  refine aw_calls (pc' := 11) (nn := 2) (c_X7_move (d := d - 1) hM 1 2 (by decide) (by decide) (by decide) (by omega)) eX7_comes_8 rfl ⟨q879, q881, q62⟩ q880 ⟨by decide +kernel, by decide +kernel, by decide +kernel⟩ rfl ⟨by omega, by decide⟩ ⟨by omega, by omega⟩ rfl (Nat.le_of_ble_eq_true rfl) (fun v3 h4 hq5 => ?_)
  obtain ⟨rfl, hM1, hs2⟩ := hq5
  dsimp only [Option.toList, List.cons_append, List.nil_append]
  refine aw_bipush (pc' := 13) (v := -5) eX7_comes_11 rfl (by decide) ?_
  refine aw_istore_n (pc' := 14) eX7_comes_13 rfl (by decide) ?_
  dsimp only [zst, zst2, zcut]
  refine aw_iconst (pc' := 15) (v := 0) eX7_comes_14 rfl (by decide) ?_
  refine aw_istore (pc' := 17) eX7_comes_15 rfl (by decide) ?_
  dsimp only [zst, zst2, zcut]
  have b0 := MK.b0 hk.1
  refine lp_X7_comes (n := 0) (U := mset U1 2 (U1.1 1)) (F := mRd U) (hz.k (hk.m2 hn)) (mRd_K (hk.m2 hn)) (by omega) hi 61 0 t _ g _ _ (by omega) rfl hg (by omega) b0 hM1 hs2 (fun h' U' g' y' m9 k9 s9 => ?_)
  refine aw_aload_n (pc' := 59) eX7_comes_58 rfl rfl trivial ?_
  refine aw_Mref (pc' := 62) (kf := 1) 2 m9 eX7_comes_59 rfl (by decide) rfl q790 ?_
  refine aw_aload_n (pc' := 63) eX7_comes_62 rfl rfl trivial ?_
  refine aw_Mref (pc' := 66) (kf := 0) 1 m9 eX7_comes_63 rfl (by decide) rfl q789 ?_
  refine aw_calls (pc' := 69) (nn := 2) (c_X7_move (d := d - 1) m9 2 1 (by decide) (by decide) (by decide) (by omega)) eX7_comes_66 rfl ⟨q879, q881, q62⟩ q880 ⟨by decide +kernel, by decide +kernel, by decide +kernel⟩ rfl ⟨by omega, by decide⟩ ⟨by omega, by omega⟩ rfl (Nat.le_of_ble_eq_true rfl) (fun v3 h4 hq5 => ?_)
  obtain ⟨rfl, hM1, hs2⟩ := hq5
  have hT6 := s9.tr hs2
  dsimp only [Option.toList, List.cons_append, List.nil_append]
  refine aw_iload_n (pc' := 70) eX7_comes_69 rfl rfl ?_
  refine aw_ret (v := some (.int _)) eX7_comes_70 ⟨rfl, rfl⟩ (by omega) (by omega) rfl ?_
  exact ⟨rfl, _, hM1, hk.tri hn k9, hT6⟩
end M16
end
section
/-! the model: by which current, after whom -/
section M17
variable {l : Launch} {G : GT} {u : Nat} {U U1 : MS} {d n m t : Nat} {g : Nat → Int32} {h : Hp} {Q : Option Value → Hp → Prop}
/-- the row with all currents c -/
def sCur (g : Nat → Int32) (c : Int32) : Nat → Int32 := fun j => if 63 ≤ j ∧ j < 67 then c else g j
theorem sCur_ne {g : Nat → Int32} {c : Int32} {j : Nat} (h : j < 63 ∨ 67 ≤ j) : sCur g c j = g j := if_neg (by omega)
theorem sCur_ok {g : Nat → Int32} {c : Int32} (hg : gOk g m t) : gOk (sCur g c) m t := gOk_of hg (sCur_ne (by omega)) (sCur_ne (by omega)) (sCur_ne (by omega))
def sBlow (F : FT) (g : Nat → Int32) (m t i : Nat) : Nat → Int32 × Int32
  | 0 => (-5, 1000)
  | c + 1 => (if sLate (sCome F m 3 i 61 0 t (sCur g (nI c))) < (sBlow F g m t i c).2 then nI c else (sBlow F g m t i c).1, if (sBlow F g m t i c).2 < sLate (sCome F m 3 i 61 0 t (sCur g (nI c))) then (sBlow F g m t i c).2 else sLate (sCome F m 3 i 61 0 t (sCur g (nI c))))
def sNews (F : FT) (g : Nat → Int32) (m t i : Nat) : Nat → Int32 × Int32
  | 0 => (-5, sLate (sCome F m 2 i 61 0 t g))
  | k + 1 => if g (10 * k + 3) = 0 then (if sLate (sCome F m 2 i 61 0 t (sSays g k)) < (sNews F g m t i k).2 then nI k else (sNews F g m t i k).1, if (sNews F g m t i k).2 < sLate (sCome F m 2 i 61 0 t (sSays g k)) then (sNews F g m t i k).2 else sLate (sCome F m 2 i 61 0 t (sSays g k))) else sNews F g m t i k
theorem MK.ha {g : Nat → Int32} {U U1 : MS} {f : Nat → Int32} (a : MK n g U U1) (hn : 2 ≤ n) : MK n g U (mset U1 11 f) :=
  ⟨by rw [mset_ne (by decide)]; exact a.1, fun j hj => by rw [mset_ne (by unfold msv at hj; omega)]; exact a.2.1 j hj, a.2.2⟩
theorem MK.rf0 {U : MS} : MK n (U.1 1) U U := ⟨rfl, fun _ _ => rfl, fun _ _ => rfl, rfl⟩
theorem MK.ret {g g' : Nat → Int32} {U U1 U2 : MS} {f : Nat → Int32} (a : MK n g U U1) (hn : 2 ≤ n) (b : MK 1 g' (mset U1 11 f) U2) (g2 : Nat → Int32) : MK n g2 U (mset U2 1 g2) :=
  ((a.ha (f := f) hn).tr (b.le (n' := n) (by omega))).mg
theorem nI_63 {k : Nat} (hk : k < 60) : (63 + nI k).toNatClampNeg = 63 + k ∧ vp_in (63 + nI k) 123 := ixa (c := 63) (by omega)

abbrev mX7_blow : MT := (RX7, cX7_blow, 6, (some .int), false)
theorem eX7_blow_0 : decode mX7_blow.2.1 0 = .ok (.iconst 0, 1) := by decide +kernel
theorem eX7_blow_1 : decode mX7_blow.2.1 1 = .ok (.istore_n 2, 1) := by decide +kernel
theorem eX7_blow_2 : decode mX7_blow.2.1 2 = .ok (.iload_n 2, 1) := by decide +kernel
theorem eX7_blow_3 : decode mX7_blow.2.1 3 = .ok (.iconst 4, 1) := by decide +kernel
theorem eX7_blow_4 : decode mX7_blow.2.1 4 = .ok (.if_icmp .ge 24, 3) := by decide +kernel
theorem eX7_blow_7 : decode mX7_blow.2.1 7 = .ok (.aload_n 0, 1) := by decide +kernel
theorem eX7_blow_8 : decode mX7_blow.2.1 8 = .ok (.getfield 47, 3) := by decide +kernel
theorem eX7_blow_11 : decode mX7_blow.2.1 11 = .ok (.iload_n 2, 1) := by decide +kernel
theorem eX7_blow_12 : decode mX7_blow.2.1 12 = .ok (.aload_n 0, 1) := by decide +kernel
theorem eX7_blow_13 : decode mX7_blow.2.1 13 = .ok (.getfield 15, 3) := by decide +kernel
theorem eX7_blow_16 : decode mX7_blow.2.1 16 = .ok (.bipush 63, 2) := by decide +kernel
theorem eX7_blow_18 : decode mX7_blow.2.1 18 = .ok (.iload_n 2, 1) := by decide +kernel
theorem eX7_blow_19 : decode mX7_blow.2.1 19 = .ok (.iadd, 1) := by decide +kernel
theorem eX7_blow_20 : decode mX7_blow.2.1 20 = .ok (.iaload, 1) := by decide +kernel
theorem eX7_blow_21 : decode mX7_blow.2.1 21 = .ok (.iastore, 1) := by decide +kernel
theorem eX7_blow_22 : decode mX7_blow.2.1 22 = .ok (.iinc 2 1, 3) := by decide +kernel
theorem eX7_blow_25 : decode mX7_blow.2.1 25 = .ok (.goto (-23), 3) := by decide +kernel
theorem eX7_blow_28 : decode mX7_blow.2.1 28 = .ok (.bipush (-5), 2) := by decide +kernel
theorem eX7_blow_30 : decode mX7_blow.2.1 30 = .ok (.istore_n 2, 1) := by decide +kernel
theorem eX7_blow_31 : decode mX7_blow.2.1 31 = .ok (.sipush 1000, 3) := by decide +kernel
theorem eX7_blow_34 : decode mX7_blow.2.1 34 = .ok (.istore_n 3, 1) := by decide +kernel
theorem eX7_blow_35 : decode mX7_blow.2.1 35 = .ok (.iconst 0, 1) := by decide +kernel
theorem eX7_blow_36 : decode mX7_blow.2.1 36 = .ok (.istore 4, 2) := by decide +kernel
theorem eX7_blow_38 : decode mX7_blow.2.1 38 = .ok (.iload 4, 2) := by decide +kernel
theorem eX7_blow_40 : decode mX7_blow.2.1 40 = .ok (.bipush 10, 2) := by decide +kernel
theorem eX7_blow_42 : decode mX7_blow.2.1 42 = .ok (.if_icmp .ge 67, 3) := by decide +kernel
theorem eX7_blow_45 : decode mX7_blow.2.1 45 = .ok (.iconst 0, 1) := by decide +kernel
theorem eX7_blow_46 : decode mX7_blow.2.1 46 = .ok (.istore 5, 2) := by decide +kernel
theorem eX7_blow_48 : decode mX7_blow.2.1 48 = .ok (.iload 5, 2) := by decide +kernel
theorem eX7_blow_50 : decode mX7_blow.2.1 50 = .ok (.iconst 4, 1) := by decide +kernel
theorem eX7_blow_51 : decode mX7_blow.2.1 51 = .ok (.if_icmp .ge 21, 3) := by decide +kernel
theorem eX7_blow_54 : decode mX7_blow.2.1 54 = .ok (.aload_n 0, 1) := by decide +kernel
theorem eX7_blow_55 : decode mX7_blow.2.1 55 = .ok (.getfield 15, 3) := by decide +kernel
theorem eX7_blow_58 : decode mX7_blow.2.1 58 = .ok (.bipush 63, 2) := by decide +kernel
theorem eX7_blow_60 : decode mX7_blow.2.1 60 = .ok (.iload 5, 2) := by decide +kernel
theorem eX7_blow_62 : decode mX7_blow.2.1 62 = .ok (.iadd, 1) := by decide +kernel
theorem eX7_blow_63 : decode mX7_blow.2.1 63 = .ok (.iload 4, 2) := by decide +kernel
theorem eX7_blow_65 : decode mX7_blow.2.1 65 = .ok (.iastore, 1) := by decide +kernel
theorem eX7_blow_66 : decode mX7_blow.2.1 66 = .ok (.iinc 5 1, 3) := by decide +kernel
theorem eX7_blow_69 : decode mX7_blow.2.1 69 = .ok (.goto (-21), 3) := by decide +kernel
theorem eX7_blow_72 : decode mX7_blow.2.1 72 = .ok (.aload_n 0, 1) := by decide +kernel
theorem eX7_blow_73 : decode mX7_blow.2.1 73 = .ok (.iload_n 1, 1) := by decide +kernel
theorem eX7_blow_74 : decode mX7_blow.2.1 74 = .ok (.iconst 3, 1) := by decide +kernel
theorem eX7_blow_75 : decode mX7_blow.2.1 75 = .ok (.invokevirtual 102, 3) := by decide +kernel
theorem eX7_blow_78 : decode mX7_blow.2.1 78 = .ok (.invokestatic 203, 3) := by decide +kernel
theorem eX7_blow_81 : decode mX7_blow.2.1 81 = .ok (.istore 5, 2) := by decide +kernel
theorem eX7_blow_83 : decode mX7_blow.2.1 83 = .ok (.iload 5, 2) := by decide +kernel
theorem eX7_blow_85 : decode mX7_blow.2.1 85 = .ok (.iload_n 3, 1) := by decide +kernel
theorem eX7_blow_86 : decode mX7_blow.2.1 86 = .ok (.if_icmp .ge 8, 3) := by decide +kernel
theorem eX7_blow_89 : decode mX7_blow.2.1 89 = .ok (.iload 4, 2) := by decide +kernel
theorem eX7_blow_91 : decode mX7_blow.2.1 91 = .ok (.goto 4, 3) := by decide +kernel
theorem eX7_blow_94 : decode mX7_blow.2.1 94 = .ok (.iload_n 2, 1) := by decide +kernel
theorem eX7_blow_95 : decode mX7_blow.2.1 95 = .ok (.istore_n 2, 1) := by decide +kernel
theorem eX7_blow_96 : decode mX7_blow.2.1 96 = .ok (.iload 5, 2) := by decide +kernel
theorem eX7_blow_98 : decode mX7_blow.2.1 98 = .ok (.iload_n 3, 1) := by decide +kernel
theorem eX7_blow_99 : decode mX7_blow.2.1 99 = .ok (.invokestatic 186, 3) := by decide +kernel
theorem eX7_blow_102 : decode mX7_blow.2.1 102 = .ok (.istore_n 3, 1) := by decide +kernel
theorem eX7_blow_103 : decode mX7_blow.2.1 103 = .ok (.iinc 4 1, 3) := by decide +kernel
theorem eX7_blow_106 : decode mX7_blow.2.1 106 = .ok (.goto (-68), 3) := by decide +kernel
theorem eX7_blow_109 : decode mX7_blow.2.1 109 = .ok (.iconst 0, 1) := by decide +kernel
theorem eX7_blow_110 : decode mX7_blow.2.1 110 = .ok (.istore 4, 2) := by decide +kernel
theorem eX7_blow_112 : decode mX7_blow.2.1 112 = .ok (.iload 4, 2) := by decide +kernel
theorem eX7_blow_114 : decode mX7_blow.2.1 114 = .ok (.iconst 4, 1) := by decide +kernel
theorem eX7_blow_115 : decode mX7_blow.2.1 115 = .ok (.if_icmp .ge 26, 3) := by decide +kernel
theorem eX7_blow_118 : decode mX7_blow.2.1 118 = .ok (.aload_n 0, 1) := by decide +kernel
theorem eX7_blow_119 : decode mX7_blow.2.1 119 = .ok (.getfield 15, 3) := by decide +kernel
theorem eX7_blow_122 : decode mX7_blow.2.1 122 = .ok (.bipush 63, 2) := by decide +kernel
theorem eX7_blow_124 : decode mX7_blow.2.1 124 = .ok (.iload 4, 2) := by decide +kernel
theorem eX7_blow_126 : decode mX7_blow.2.1 126 = .ok (.iadd, 1) := by decide +kernel
theorem eX7_blow_127 : decode mX7_blow.2.1 127 = .ok (.aload_n 0, 1) := by decide +kernel
theorem eX7_blow_128 : decode mX7_blow.2.1 128 = .ok (.getfield 47, 3) := by decide +kernel
theorem eX7_blow_131 : decode mX7_blow.2.1 131 = .ok (.iload 4, 2) := by decide +kernel
theorem eX7_blow_133 : decode mX7_blow.2.1 133 = .ok (.iaload, 1) := by decide +kernel
theorem eX7_blow_134 : decode mX7_blow.2.1 134 = .ok (.iastore, 1) := by decide +kernel
theorem eX7_blow_135 : decode mX7_blow.2.1 135 = .ok (.iinc 4 1, 3) := by decide +kernel
theorem eX7_blow_138 : decode mX7_blow.2.1 138 = .ok (.goto (-26), 3) := by decide +kernel
theorem eX7_blow_141 : decode mX7_blow.2.1 141 = .ok (.iload_n 2, 1) := by decide +kernel
theorem eX7_blow_142 : decode mX7_blow.2.1 142 = .ok (.ireturn, 1) := by decide +kernel
theorem sCur_sCur (g : Nat → Int32) (c x : Int32) : sCur (sCur g c) x = sCur g x := by
  funext j
  unfold sCur
  by_cases h : 63 ≤ j ∧ j < 67
  · rw [if_pos h, if_pos h]
  · rw [if_neg h, if_neg h, if_neg h]
theorem lp1_X7_blow {V : MS} {x1 : Int32} {o3 o4 o5 : Option Value} {h0 : Hp} (hQ : ∀ h' y', MAt h' u (mset V 11 (fun q => if q < 4 then V.1 1 (63 + q) else V.1 11 q)) → Same u 19 h0 h' → AW l G mX7_blow d 0 0 Q 0 0 h' [some (.ref u), some (.int x1), some (.int y'), o3, o4, o5] [] 28) : ∀ (j k : Nat) (y : Int32) (h : Hp), j = 4 - k → k ≤ 4 → y = nI k → MAt h u (mset V 11 (fun q => if q < k then V.1 1 (63 + q) else V.1 11 q)) → Same u 19 h0 h → AW l G mX7_blow d 0 0 Q 0 0 h [some (.ref u), some (.int x1), some (.int y), o3, o4, o5] [] 2 := by
  intro j
  induction j using Nat.strongRecOn with
  | _ j ih =>
    intro k y h hj hk hy hM hs
    subst hy
    refine aw_iload_n (pc' := 3) eX7_blow_2 rfl rfl ?_
    refine aw_iconst (pc' := 4) (v := 4) eX7_blow_3 rfl (by decide) ?_
    refine aw_icmp_ge (pc' := 7) (tgt := 28) eX7_blow_4 rfl (by decide) (fun c_4 => ?_) (fun c_4 => ?_)
    · have c9 : 4 ≤ k := ge_nI (b := 4) (by omega) (by omega) c_4
      obtain rfl : k = 4 := by omega
      exact hQ _ _ hM hs
    · have c9 : k < 4 := nge_nI (b := 4) (by omega) (by omega) c_4
      refine aw_aload_n (pc' := 8) eX7_blow_7 rfl rfl trivial ?_
      refine aw_Mref (pc' := 11) (kf := 19) 11 hM eX7_blow_8 rfl (by decide) rfl q808 ?_
      refine aw_iload_n (pc' := 12) eX7_blow_11 rfl rfl ?_
      refine aw_aload_n (pc' := 13) eX7_blow_12 rfl rfl trivial ?_
      refine aw_Mref (pc' := 16) (kf := 0) 1 hM eX7_blow_13 rfl (by decide) rfl q789 ?_
      refine aw_bipush (pc' := 18) (v := 63) eX7_blow_16 rfl (by decide) ?_
      refine aw_iload_n (pc' := 19) eX7_blow_18 rfl rfl ?_
      refine aw_iadd (pc' := 20) eX7_blow_19 rfl ?_
      refine aw_MaldC (pc' := 21) 1 (63 + k) hM eX7_blow_20 rfl (by decide) (nI_63 (k := k) (by omega)).2 (nI_63 (k := k) (by omega)).1 ?_
      refine aw_MastC (pc' := 22) 11 k hM eX7_blow_21 rfl (by decide) (show vp_in _ 4 from vp_in_nI (by omega) (by omega)) (nI_clamp (by omega)) (fun h3 hM1 hs2 => ?_)
      refine aw_iinc (pc' := 25) eX7_blow_22 rfl rfl rfl (by decide) ?_
      dsimp only [zst, zst2, zcut]
      refine aw_goto eX7_blow_25 (by decide) (tgt := 2) ?_
      refine ih (4 - (k + 1)) (by omega) (k + 1) _ _ rfl (by omega) (nI_inc k) ?_ (hs.tr hs2)
      have hM9 := hM1
      rw [mup_mset, mset_set, mset_eq] at hM9
      refine hM9.gs fun q hq => ?_
      rw [upd_if]
      show (if q = k then V.1 1 (63 + k) else if q < k then V.1 1 (63 + q) else V.1 11 q) = _
      by_cases e : q = k
      · rw [if_pos e, if_pos (by omega), e]
      · rw [if_neg e]
        by_cases e2 : q < k
        · rw [if_pos e2, if_pos (by omega)]
        · rw [if_neg e2, if_neg (by omega)]
theorem lp2_X7_blow {V : MS} {g : Nat → Int32} {c : Int32} {o1 o2 o3 : Option Value} {h0 : Hp} (hQ : ∀ h' y', MAt h' u (mg V (sCur g c)) → Same u 19 h0 h' → AW l G mX7_blow d 0 0 Q 0 0 h' [some (.ref u), o1, o2, o3, some (.int c), some (.int y')] [] 72) : ∀ (j k : Nat) (y : Int32) (h : Hp), j = 4 - k → k ≤ 4 → y = nI k → MAt h u (mg V (fun q => if 63 ≤ q ∧ q < 63 + k then c else g q)) → Same u 19 h0 h → AW l G mX7_blow d 0 0 Q 0 0 h [some (.ref u), o1, o2, o3, some (.int c), some (.int y)] [] 48 := by
  intro j
  induction j using Nat.strongRecOn with
  | _ j ih =>
    intro k y h hj hk hy hM hs
    subst hy
    refine aw_iload (pc' := 50) eX7_blow_48 rfl rfl ?_
    refine aw_iconst (pc' := 51) (v := 4) eX7_blow_50 rfl (by decide) ?_
    refine aw_icmp_ge (pc' := 54) (tgt := 72) eX7_blow_51 rfl (by decide) (fun c_51 => ?_) (fun c_51 => ?_)
    · have c9 : 4 ≤ k := ge_nI (b := 4) (by omega) (by omega) c_51
      obtain rfl : k = 4 := by omega
      exact hQ _ _ hM hs
    · have c9 : k < 4 := nge_nI (b := 4) (by omega) (by omega) c_51
      refine aw_aload_n (pc' := 55) eX7_blow_54 rfl rfl trivial ?_
      refine aw_Mref (pc' := 58) (kf := 0) 1 hM eX7_blow_55 rfl (by decide) rfl q789 ?_
      refine aw_bipush (pc' := 60) (v := 63) eX7_blow_58 rfl (by decide) ?_
      refine aw_iload (pc' := 62) eX7_blow_60 rfl rfl ?_
      refine aw_iadd (pc' := 63) eX7_blow_62 rfl ?_
      refine aw_iload (pc' := 65) eX7_blow_63 rfl rfl ?_
      refine aw_MastC (pc' := 66) 1 (63 + k) hM eX7_blow_65 rfl (by decide) (nI_63 (k := k) (by omega)).2 (nI_63 (k := k) (by omega)).1 (fun h3 hM1 hs2 => ?_)
      refine aw_iinc (pc' := 69) eX7_blow_66 rfl rfl rfl (by decide) ?_
      dsimp only [zst, zst2, zcut]
      refine aw_goto eX7_blow_69 (by decide) (tgt := 48) ?_
      refine ih (4 - (k + 1)) (by omega) (k + 1) _ _ rfl (by omega) (nI_inc k) ?_ (hs.tr hs2)
      have hM9 := hM1
      rw [mup_mg, mg_mg, mg_1] at hM9
      refine hM9.gx fun q hq => ?_
      rw [upd_if]
      show (if q = 63 + k then c else if 63 ≤ q ∧ q < 63 + k then c else g q) = _
      by_cases e : q = 63 + k
      · rw [if_pos e, if_pos (by omega)]
      · rw [if_neg e]
        by_cases e2 : 63 ≤ q ∧ q < 63 + k
        · rw [if_pos e2, if_pos (by omega)]
        · rw [if_neg e2, if_neg (by omega)]
theorem lp3_X7_blow {V : MS} {g : Nat → Int32} {x3 : Int32} {o1 o2 o5 : Option Value} {h0 : Hp} (hQ : ∀ h' y', MAt h' u (mg V (fun q => if 63 ≤ q ∧ q < 67 then V.1 11 (q - 63) else g q)) → Same u 19 h0 h' → AW l G mX7_blow d 0 0 Q 0 0 h' [some (.ref u), o1, o2, some (.int x3), some (.int y'), o5] [] 141) : ∀ (j k : Nat) (y : Int32) (h : Hp), j = 4 - k → k ≤ 4 → y = nI k → MAt h u (mg V (fun q => if 63 ≤ q ∧ q < 63 + k then V.1 11 (q - 63) else g q)) → Same u 19 h0 h → AW l G mX7_blow d 0 0 Q 0 0 h [some (.ref u), o1, o2, some (.int x3), some (.int y), o5] [] 112 := by
  intro j
  induction j using Nat.strongRecOn with
  | _ j ih =>
    intro k y h hj hk hy hM hs
    subst hy
    refine aw_iload (pc' := 114) eX7_blow_112 rfl rfl ?_
    refine aw_iconst (pc' := 115) (v := 4) eX7_blow_114 rfl (by decide) ?_
    refine aw_icmp_ge (pc' := 118) (tgt := 141) eX7_blow_115 rfl (by decide) (fun c_115 => ?_) (fun c_115 => ?_)
    · have c9 : 4 ≤ k := ge_nI (b := 4) (by omega) (by omega) c_115
      obtain rfl : k = 4 := by omega
      exact hQ _ _ hM hs
    · have c9 : k < 4 := nge_nI (b := 4) (by omega) (by omega) c_115
      refine aw_aload_n (pc' := 119) eX7_blow_118 rfl rfl trivial ?_
      refine aw_Mref (pc' := 122) (kf := 0) 1 hM eX7_blow_119 rfl (by decide) rfl q789 ?_
      refine aw_bipush (pc' := 124) (v := 63) eX7_blow_122 rfl (by decide) ?_
      refine aw_iload (pc' := 126) eX7_blow_124 rfl rfl ?_
      refine aw_iadd (pc' := 127) eX7_blow_126 rfl ?_
      refine aw_aload_n (pc' := 128) eX7_blow_127 rfl rfl trivial ?_
      refine aw_Mref (pc' := 131) (kf := 19) 11 hM eX7_blow_128 rfl (by decide) rfl q808 ?_
      refine aw_iload (pc' := 133) eX7_blow_131 rfl rfl ?_
      refine aw_MaldC (pc' := 134) 11 k hM eX7_blow_133 rfl (by decide) (show vp_in _ 4 from vp_in_nI (by omega) (by omega)) (nI_clamp (by omega)) ?_
      refine aw_MastC (pc' := 135) 1 (63 + k) hM eX7_blow_134 rfl (by decide) (nI_63 (k := k) (by omega)).2 (nI_63 (k := k) (by omega)).1 (fun h3 hM1 hs2 => ?_)
      refine aw_iinc (pc' := 138) eX7_blow_135 rfl rfl rfl (by decide) ?_
      dsimp only [zst, zst2, zcut]
      refine aw_goto eX7_blow_138 (by decide) (tgt := 112) ?_
      refine ih (4 - (k + 1)) (by omega) (k + 1) _ _ rfl (by omega) (nI_inc k) ?_ (hs.tr hs2)
      have hM9 := hM1
      rw [mup_mg, mg_mg, mg_1] at hM9
      refine hM9.gx fun q hq => ?_
      rw [upd_if]
      show (if q = 63 + k then V.1 11 k else if 63 ≤ q ∧ q < 63 + k then V.1 11 (q - 63) else g q) = _
      by_cases e : q = 63 + k
      · rw [if_pos e, if_pos (by omega)]
        exact congrArg (V.1 11) (by omega)
      · rw [if_neg e]
        by_cases e2 : 63 ≤ q ∧ q < 63 + k
        · rw [if_pos e2, if_pos (by omega)]
        · rw [if_neg e2, if_neg (by omega)]
theorem lp0_X7_blow {F : FT} (hF : mRd U = F) (hz : mZ U) {g : Nat → Int32} (hg : gOk g m t) {i : Nat} (hi : i < 6) (ht6 : t ≤ 1000000000) (hd : 26 ≤ d) {h0 : Hp} (hQ : ∀ h' U' g' y' o5, MAt h' u U' → MK 1 g' U U' → Same u 19 h0 h' → (∀ x, sCur g' x = sCur g x) → AW l G mX7_blow d 0 0 Q 0 0 h' [some (.ref u), some (.int (nI i)), some (.int (sBlow F g m t i 10).1), some (.int (sBlow F g m t i 10).2), some (.int y'), o5] [] 109) : ∀ (j c : Nat) (y b e : Int32) (o5 : Option Value) (h : Hp) (g' : Nat → Int32) (U1 : MS), j = 10 - c → c ≤ 10 → y = nI c → b = (sBlow F g m t i c).1 → e = (sBlow F g m t i c).2 → MK 1 g' U U1 → (∀ x, sCur g' x = sCur g x) → MAt h u U1 → Same u 19 h0 h → AW l G mX7_blow d 0 0 Q 0 0 h [some (.ref u), some (.int (nI i)), some (.int b), some (.int e), some (.int y), o5] [] 38 := by
  intro j
  induction j using Nat.strongRecOn with
  | _ j ih =>
    intro c y b e o5 h g' U1 hj hc hy hb he hk hgs hM hs
    subst hy hb he
    subst hF
    refine aw_iload (pc' := 40) eX7_blow_38 rfl rfl ?_
    refine aw_bipush (pc' := 42) (v := 10) eX7_blow_40 rfl (by decide) ?_
    refine aw_icmp_ge (pc' := 45) (tgt := 109) eX7_blow_42 rfl (by decide) (fun c_42 => ?_) (fun c_42 => ?_)
    · have c9 : 10 ≤ c := ge_nI (b := 10) (by omega) (by omega) c_42
      obtain rfl : c = 10 := by omega
      exact hQ _ _ _ _ _ hM hk hs hgs
    · have c9 : c < 10 := nge_nI (b := 10) (by omega) (by omega) c_42
      refine aw_iconst (pc' := 46) (v := 0) eX7_blow_45 rfl (by decide) ?_
      refine aw_istore (pc' := 48) eX7_blow_46 rfl (by decide) ?_
      dsimp only [zst, zst2, zcut]
      refine lp2_X7_blow (V := U1) (g := U1.1 1) (c := nI c) (fun h1 y1 m1 s1 => ?_) 4 0 _ _ (by omega) (by omega) rfl (MAt.id (j := 1) hM fun q hq => by rw [if_neg (by omega)]) Same.rf
      have kc : MK 1 (sCur g (nI c)) U (mg U1 (sCur (U1.1 1) (nI c))) := by rw [hk.1, hgs]; exact hk.mg
      refine aw_aload_n (pc' := 73) eX7_blow_72 rfl rfl trivial ?_
      refine aw_iload_n (pc' := 74) eX7_blow_73 rfl rfl ?_
      refine aw_iconst (pc' := 75) (v := 3) eX7_blow_74 rfl (by decide) ?_
      refine aw_callv (pc' := 78) (nn := 2) (c_X7_comes (d := d - 1) kc m1 hz (sCur_ok hg) (n := 1) (by omega) (i := i) (by omega) 3 (by omega) (by omega)) eX7_blow_75 rfl ⟨q966, q969, q62⟩ q968 q38 ⟨rfl, by decide +kernel, by decide +kernel, by decide +kernel⟩ rfl (by rw [m1.2.1]; exact ⟨rfl, rfl⟩) rfl ⟨by omega, by decide⟩ ⟨by omega, by omega⟩ rfl (Nat.le_of_ble_eq_true rfl) (fun v5 h6 hq7 => ?_)
      obtain ⟨rfl, V3, hM1, k4, hs2⟩ := hq7
      have hT8 := s1.tr hs2
      dsimp only [Option.toList, List.cons_append, List.nil_append]
      refine aw_calls (pc' := 81) (nn := 1) (c_X7_late (d := d - 1) _ (by omega)) eX7_blow_78 rfl ⟨q990, q992, q62⟩ q991 ⟨by decide +kernel, by decide +kernel, by decide +kernel⟩ rfl ⟨by omega, by decide⟩ ⟨by omega, by omega⟩ rfl (Nat.le_of_ble_eq_true rfl) (fun v9 h10 hq11 => ?_)
      obtain ⟨rfl, rfl⟩ := hq11
      dsimp only [Option.toList, List.cons_append, List.nil_append]
      refine aw_istore (pc' := 83) eX7_blow_81 rfl (by decide) ?_
      dsimp only [zst, zst2, zcut]
      refine aw_iload (pc' := 85) eX7_blow_83 rfl rfl ?_
      refine aw_iload_n (pc' := 86) eX7_blow_85 rfl rfl ?_
      refine aw_icmp_ge (pc' := 89) (tgt := 94) eX7_blow_86 rfl (by decide) (fun c_86 => ?_) (fun c_86 => ?_)
      · refine aw_iload_n (pc' := 95) eX7_blow_94 rfl rfl ?_
        refine aw_istore_n (pc' := 96) eX7_blow_95 rfl (by decide) ?_
        dsimp only [zst, zst2, zcut]
        refine aw_iload (pc' := 98) eX7_blow_96 rfl rfl ?_
        refine aw_iload_n (pc' := 99) eX7_blow_98 rfl rfl ?_
        refine aw_mmin (pc' := 102) eX7_blow_99 rfl q961 q326 q63 q327 (by omega) ⟨by omega, by omega⟩ (Nat.le_of_ble_eq_true rfl) ?_
        refine aw_istore_n (pc' := 103) eX7_blow_102 rfl (by decide) ?_
        dsimp only [zst, zst2, zcut]
        refine aw_iinc (pc' := 106) eX7_blow_103 rfl rfl rfl (by decide) ?_
        dsimp only [zst, zst2, zcut]
        refine aw_goto eX7_blow_106 (by decide) (tgt := 38) ?_
        exact ih (10 - (c + 1)) (by omega) (c + 1) _ _ _ _ _ _ _ rfl (by omega) (nI_inc c) (show _ = (sBlow (mRd U) g m t i (c + 1)).1 from by rw [sBlow]; exact (if_neg (by first | exact Int32.not_lt.mpr c_86 | exact c_86)).symm) rfl k4 (fun x => sCur_sCur g (nI c) x) hM1 (hs.tr hT8)
      · refine aw_iload (pc' := 91) eX7_blow_89 rfl rfl ?_
        refine aw_goto eX7_blow_91 (by decide) (tgt := 95) ?_
        refine aw_istore_n (pc' := 96) eX7_blow_95 rfl (by decide) ?_
        dsimp only [zst, zst2, zcut]
        refine aw_iload (pc' := 98) eX7_blow_96 rfl rfl ?_
        refine aw_iload_n (pc' := 99) eX7_blow_98 rfl rfl ?_
        refine aw_mmin (pc' := 102) eX7_blow_99 rfl q961 q326 q63 q327 (by omega) ⟨by omega, by omega⟩ (Nat.le_of_ble_eq_true rfl) ?_
        refine aw_istore_n (pc' := 103) eX7_blow_102 rfl (by decide) ?_
        dsimp only [zst, zst2, zcut]
        refine aw_iinc (pc' := 106) eX7_blow_103 rfl rfl rfl (by decide) ?_
        dsimp only [zst, zst2, zcut]
        refine aw_goto eX7_blow_106 (by decide) (tgt := 38) ?_
        exact ih (10 - (c + 1)) (by omega) (c + 1) _ _ _ _ _ _ _ rfl (by omega) (nI_inc c) (show _ = (sBlow (mRd U) g m t i (c + 1)).1 from by rw [sBlow]; exact (if_pos (by first | exact c_86 | exact Int32.not_le.mp c_86)).symm) rfl k4 (fun x => sCur_sCur g (nI c) x) hM1 (hs.tr hT8)
theorem c_X7_blow (hk : MK n g U U1) (hM : MAt h u U1) (hz : mZ U) (hg : gOk g m t) (hn : 2 ≤ n) {i : Nat} (hi : i < 6) (ht6 : t ≤ 1000000000) (hd : 26 ≤ d) : Ct l G mX7_blow yX7_blow d 0 0 [.ref u, .int (nI i)] h (fun r h' => r = some (.int (sBlow (mRd U) g m t i 10).1) ∧ ∃ U', MAt h' u U' ∧ MK n g U U' ∧ Same u 19 h h') := by
  refine ct_of (lv := [some (.ref u), some (.int (nI i)), none, none, none, none]) (by decide +kernel) rfl (fun z => by cases z) (fun _ => rfl) (fun _ => Nat.le_of_ble_eq_true rfl) ?_
  refine aw_iconst (pc' := 1) (v := 0) eX7_blow_0 rfl (by decide) ?_
  refine aw_istore_n (pc' := 2) eX7_blow_1 rfl (by decide) ?_
  dsimp only [zst, zst2, zcut]
  refine lp1_X7_blow (V := U1) (fun h1 y1 m1 s1 => ?_) 4 0 _ _ (by omega) (by omega) rfl (MAt.id hM fun q hq => by rw [if_neg (by omega)]) Same.rf
  have k1 := hk.ha (f := fun q => if q < 4 then U1.1 1 (63 + q) else U1.1 11 q) hn
  refine aw_bipush (pc' := 30) (v := -5) eX7_blow_28 rfl (by decide) ?_
  refine aw_istore_n (pc' := 31) eX7_blow_30 rfl (by decide) ?_
  dsimp only [zst, zst2, zcut]
  refine aw_sipush (pc' := 34) (v := 1000) eX7_blow_31 rfl (by decide) ?_
  refine aw_istore_n (pc' := 35) eX7_blow_34 rfl (by decide) ?_
  dsimp only [zst, zst2, zcut]
  refine aw_iconst (pc' := 36) (v := 0) eX7_blow_35 rfl (by decide) ?_
  refine aw_istore (pc' := 38) eX7_blow_36 rfl (by decide) ?_
  dsimp only [zst, zst2, zcut]
  refine lp0_X7_blow (U := mset U1 11 (fun q => if q < 4 then U1.1 1 (63 + q) else U1.1 11 q)) (F := mRd U) (mRd_K k1) (hz.k k1) (g := g) hg hi ht6 hd (fun h2 V2 g' y' o5 m2 k2 s2 hgs => ?_) 10 0 _ _ _ _ _ _ _ (by omega) (by omega) rfl rfl rfl MK.rf0 (fun x => by rw [show (mset U1 11 (fun q => if q < 4 then U1.1 1 (63 + q) else U1.1 11 q)).1 1 = g from hk.1]) m1 s1
  refine aw_iconst (pc' := 110) (v := 0) eX7_blow_109 rfl (by decide) ?_
  refine aw_istore (pc' := 112) eX7_blow_110 rfl (by decide) ?_
  dsimp only [zst, zst2, zcut]
  refine lp3_X7_blow (V := V2) (g := V2.1 1) (fun h3 y3 m3 s3 => ?_) 4 0 _ _ (by omega) (by omega) rfl (MAt.id (j := 1) m2 fun q hq => by rw [if_neg (by omega)]) s2
  have e11 : V2.1 11 = fun q => if q < 4 then U1.1 1 (63 + q) else U1.1 11 q := by rw [k2.2.1 11 (by unfold msv; omega), mset_eq]
  have eg : (fun q => if 63 ≤ q ∧ q < 67 then V2.1 11 (q - 63) else V2.1 1 q) = g := by
    funext q
    by_cases e : 63 ≤ q ∧ q < 67
    · rw [if_pos e, e11]
      show (if q - 63 < 4 then U1.1 1 (63 + (q - 63)) else _) = _
      rw [if_pos (by omega), show 63 + (q - 63) = q by omega, hk.1]
    · rw [if_neg e, k2.1, ← sCur_ne (c := 0) (g := g') (by omega), hgs, sCur_ne (by omega)]
  rw [eg] at m3
  have kz : MK n g U (mg V2 g) := hk.ret hn k2 g
  refine aw_iload_n (pc' := 142) eX7_blow_141 rfl rfl ?_
  refine aw_ret (v := some (.int _)) eX7_blow_142 ⟨rfl, rfl⟩ (by omega) (by omega) rfl ?_
  exact ⟨rfl, _, m3, kz, s3⟩
end M17
end
section
/-! the model: after whom; of, told, pass, on -/
section M18
variable {l : Launch} {G : GT} {u : Nat} {U U1 : MS} {d n m t : Nat} {g : Nat → Int32} {h : Hp} {Q : Option Value → Hp → Prop}
theorem sSays_ok {k : Nat} (hk : k < 6) (hg : gOk g m t) : gOk (sSays g k) m t := gOk_of hg (sSays_hi (by omega) hk) (sSays_hi (by omega) hk) (sSays_hi (by omega) hk)
theorem sSays_undo {k : Nat} (h0 : g (10 * k + 3) = 0) : upd (upd (sSays g k) (10 * k + 3) 0) (10 * k + 4) (g (10 * k + 4)) = g := by
  funext j
  rw [sSays, if_pos h0]
  simp only [upd_if]
  by_cases h4 : j = 10 * k + 4
  · rw [if_pos h4, h4]
  · rw [if_neg h4]
    by_cases h3 : j = 10 * k + 3
    · rw [if_pos h3, h3, h0]
    · rw [if_neg h3, if_neg h4, if_neg h3]

abbrev mX7_news : MT := (RX7, cX7_news, 7, (some .int), false)
theorem eX7_news_0 : decode mX7_news.2.1 0 = .ok (.bipush (-5), 2) := by decide +kernel
theorem eX7_news_2 : decode mX7_news.2.1 2 = .ok (.istore_n 2, 1) := by decide +kernel
theorem eX7_news_3 : decode mX7_news.2.1 3 = .ok (.aload_n 0, 1) := by decide +kernel
theorem eX7_news_4 : decode mX7_news.2.1 4 = .ok (.iload_n 1, 1) := by decide +kernel
theorem eX7_news_5 : decode mX7_news.2.1 5 = .ok (.iconst 2, 1) := by decide +kernel
theorem eX7_news_6 : decode mX7_news.2.1 6 = .ok (.invokevirtual 102, 3) := by decide +kernel
theorem eX7_news_9 : decode mX7_news.2.1 9 = .ok (.invokestatic 203, 3) := by decide +kernel
theorem eX7_news_12 : decode mX7_news.2.1 12 = .ok (.istore_n 3, 1) := by decide +kernel
theorem eX7_news_13 : decode mX7_news.2.1 13 = .ok (.iconst 0, 1) := by decide +kernel
theorem eX7_news_14 : decode mX7_news.2.1 14 = .ok (.istore 4, 2) := by decide +kernel
theorem eX7_news_16 : decode mX7_news.2.1 16 = .ok (.iload 4, 2) := by decide +kernel
theorem eX7_news_18 : decode mX7_news.2.1 18 = .ok (.aload_n 0, 1) := by decide +kernel
theorem eX7_news_19 : decode mX7_news.2.1 19 = .ok (.getfield 15, 3) := by decide +kernel
theorem eX7_news_22 : decode mX7_news.2.1 22 = .ok (.bipush 60, 2) := by decide +kernel
theorem eX7_news_24 : decode mX7_news.2.1 24 = .ok (.iaload, 1) := by decide +kernel
theorem eX7_news_25 : decode mX7_news.2.1 25 = .ok (.if_icmp .ge 84, 3) := by decide +kernel
theorem eX7_news_28 : decode mX7_news.2.1 28 = .ok (.aload_n 0, 1) := by decide +kernel
theorem eX7_news_29 : decode mX7_news.2.1 29 = .ok (.iload 4, 2) := by decide +kernel
theorem eX7_news_31 : decode mX7_news.2.1 31 = .ok (.iconst 0, 1) := by decide +kernel
theorem eX7_news_32 : decode mX7_news.2.1 32 = .ok (.invokevirtual 105, 3) := by decide +kernel
theorem eX7_news_35 : decode mX7_news.2.1 35 = .ok (.ifCond .eq 68, 3) := by decide +kernel
theorem eX7_news_38 : decode mX7_news.2.1 38 = .ok (.aload_n 0, 1) := by decide +kernel
theorem eX7_news_39 : decode mX7_news.2.1 39 = .ok (.iload 4, 2) := by decide +kernel
theorem eX7_news_41 : decode mX7_news.2.1 41 = .ok (.iconst 4, 1) := by decide +kernel
theorem eX7_news_42 : decode mX7_news.2.1 42 = .ok (.invokevirtual 84, 3) := by decide +kernel
theorem eX7_news_45 : decode mX7_news.2.1 45 = .ok (.istore 5, 2) := by decide +kernel
theorem eX7_news_47 : decode mX7_news.2.1 47 = .ok (.aload_n 0, 1) := by decide +kernel
theorem eX7_news_48 : decode mX7_news.2.1 48 = .ok (.iload 4, 2) := by decide +kernel
theorem eX7_news_50 : decode mX7_news.2.1 50 = .ok (.invokevirtual 113, 3) := by decide +kernel
theorem eX7_news_53 : decode mX7_news.2.1 53 = .ok (.aload_n 0, 1) := by decide +kernel
theorem eX7_news_54 : decode mX7_news.2.1 54 = .ok (.iload_n 1, 1) := by decide +kernel
theorem eX7_news_55 : decode mX7_news.2.1 55 = .ok (.iconst 2, 1) := by decide +kernel
theorem eX7_news_56 : decode mX7_news.2.1 56 = .ok (.invokevirtual 102, 3) := by decide +kernel
theorem eX7_news_59 : decode mX7_news.2.1 59 = .ok (.invokestatic 203, 3) := by decide +kernel
theorem eX7_news_62 : decode mX7_news.2.1 62 = .ok (.istore 6, 2) := by decide +kernel
theorem eX7_news_64 : decode mX7_news.2.1 64 = .ok (.aload_n 0, 1) := by decide +kernel
theorem eX7_news_65 : decode mX7_news.2.1 65 = .ok (.iload 4, 2) := by decide +kernel
theorem eX7_news_67 : decode mX7_news.2.1 67 = .ok (.iconst 3, 1) := by decide +kernel
theorem eX7_news_68 : decode mX7_news.2.1 68 = .ok (.iconst 0, 1) := by decide +kernel
theorem eX7_news_69 : decode mX7_news.2.1 69 = .ok (.invokevirtual 109, 3) := by decide +kernel
theorem eX7_news_72 : decode mX7_news.2.1 72 = .ok (.pop, 1) := by decide +kernel
theorem eX7_news_73 : decode mX7_news.2.1 73 = .ok (.aload_n 0, 1) := by decide +kernel
theorem eX7_news_74 : decode mX7_news.2.1 74 = .ok (.iload 4, 2) := by decide +kernel
theorem eX7_news_76 : decode mX7_news.2.1 76 = .ok (.iconst 4, 1) := by decide +kernel
theorem eX7_news_77 : decode mX7_news.2.1 77 = .ok (.iload 5, 2) := by decide +kernel
theorem eX7_news_79 : decode mX7_news.2.1 79 = .ok (.invokevirtual 109, 3) := by decide +kernel
theorem eX7_news_82 : decode mX7_news.2.1 82 = .ok (.pop, 1) := by decide +kernel
theorem eX7_news_83 : decode mX7_news.2.1 83 = .ok (.iload 6, 2) := by decide +kernel
theorem eX7_news_85 : decode mX7_news.2.1 85 = .ok (.iload_n 3, 1) := by decide +kernel
theorem eX7_news_86 : decode mX7_news.2.1 86 = .ok (.if_icmp .ge 8, 3) := by decide +kernel
theorem eX7_news_89 : decode mX7_news.2.1 89 = .ok (.iload 4, 2) := by decide +kernel
theorem eX7_news_91 : decode mX7_news.2.1 91 = .ok (.goto 4, 3) := by decide +kernel
theorem eX7_news_94 : decode mX7_news.2.1 94 = .ok (.iload_n 2, 1) := by decide +kernel
theorem eX7_news_95 : decode mX7_news.2.1 95 = .ok (.istore_n 2, 1) := by decide +kernel
theorem eX7_news_96 : decode mX7_news.2.1 96 = .ok (.iload 6, 2) := by decide +kernel
theorem eX7_news_98 : decode mX7_news.2.1 98 = .ok (.iload_n 3, 1) := by decide +kernel
theorem eX7_news_99 : decode mX7_news.2.1 99 = .ok (.invokestatic 186, 3) := by decide +kernel
theorem eX7_news_102 : decode mX7_news.2.1 102 = .ok (.istore_n 3, 1) := by decide +kernel
theorem eX7_news_103 : decode mX7_news.2.1 103 = .ok (.iinc 4 1, 3) := by decide +kernel
theorem eX7_news_106 : decode mX7_news.2.1 106 = .ok (.goto (-90), 3) := by decide +kernel
theorem eX7_news_109 : decode mX7_news.2.1 109 = .ok (.iload_n 2, 1) := by decide +kernel
theorem eX7_news_110 : decode mX7_news.2.1 110 = .ok (.ireturn, 1) := by decide +kernel
theorem lp_X7_news (hz : mZ U) (hg : gOk g m t) (hn : 1 ≤ n) {i : Nat} (hi : i < 6) (ht6 : t ≤ 1000000000) (hd : 26 ≤ d) {h0 : Hp} (hQ : ∀ h' U', MAt h' u U' → MK n g U U' → Same u 19 h0 h' → Q (some (.int (sNews (mRd U) g m t i m).1)) h') : ∀ (j k : Nat) (y b e : Int32) (o5 o6 : Option Value) (h : Hp) (U1 : MS), j = m - k → k ≤ m → y = nI k → b = (sNews (mRd U) g m t i k).1 → e = (sNews (mRd U) g m t i k).2 → MK n g U U1 → MAt h u U1 → Same u 19 h0 h → AW l G mX7_news d 0 0 Q 0 0 h [some (.ref u), some (.int (nI i)), some (.int b), some (.int e), some (.int y), o5, o6] [] 16 := by
  have hgg := hg
  obtain ⟨hm, hm6, ht, ht2, hgq⟩ := hgg
  intro j
  induction j using Nat.strongRecOn with
  | _ j ih =>
    intro k y b e o5 o6 h U1 hj hkm hy hb he hk hM hs
    subst hy hb he
    refine aw_iload (pc' := 18) eX7_news_16 rfl rfl ?_
    refine aw_aload_n (pc' := 19) eX7_news_18 rfl rfl trivial ?_
    refine aw_Mref (pc' := 22) (kf := 0) 1 hM eX7_news_19 rfl (by decide) rfl q789 ?_
    refine aw_bipush (pc' := 24) (v := 60) eX7_news_22 rfl (by decide) ?_
    refine aw_MaldC (pc' := 25) 1 60 hM eX7_news_24 rfl (by decide) (by unfold vp_in; decide) (by decide) ?_
    refine aw_icmp_ge (pc' := 28) (tgt := 109) eX7_news_25 rfl (by decide) (fun c_25 => ?_) (fun c_25 => ?_)
    · rw [hk.1, hm] at c_25
      have c9 := ge_nI (by omega) (by omega) c_25
      obtain rfl : k = m := by omega
      refine aw_iload_n (pc' := 110) eX7_news_109 rfl rfl ?_
      refine aw_ret (v := some (.int _)) eX7_news_110 ⟨rfl, rfl⟩ (by omega) (by omega) rfl ?_
      exact hQ _ _ hM hk hs
    · rw [hk.1, hm] at c_25
      have c9 := nge_nI (by omega) (by omega) c_25
      refine aw_aload_n (pc' := 29) eX7_news_28 rfl rfl trivial ?_
      refine aw_iload (pc' := 31) eX7_news_29 rfl rfl ?_
      refine aw_iconst (pc' := 32) (v := 0) eX7_news_31 rfl (by decide) ?_
      refine aw_callv (pc' := 35) (nn := 2) (c_isAs (d := d - 1) hM k 0 (by omega) (by omega)) eX7_news_32 rfl ⟨q957, q960, q62⟩ q959 q36 ⟨rfl, by decide +kernel, by decide +kernel, by decide +kernel⟩ rfl (by rw [hM.2.1]; exact ⟨rfl, rfl⟩) rfl ⟨by omega, by decide⟩ ⟨by omega, by omega⟩ rfl (Nat.le_of_ble_eq_true rfl) (fun v1 h2 hq3 => ?_)
      obtain ⟨rfl, rfl⟩ := hq3
      dsimp only [Option.toList, List.cons_append, List.nil_append]
      refine aw_if_eq (pc' := 38) (tgt := 103) eX7_news_35 rfl (by decide) (fun c_35 => ?_) (fun c_35 => ?_)
      · refine aw_iinc (pc' := 106) eX7_news_103 rfl rfl rfl (by decide) ?_
        dsimp only [zst, zst2, zcut]
        refine aw_goto eX7_news_106 (by decide) (tgt := 16) ?_
        simp only [zb_eq0, Bool.not_eq_false, Bool.not_eq_true, decide_eq_true_eq, decide_eq_false_iff_not, Decidable.not_not, hk.1] at c_35
        have e : sNews (mRd U) g m t i (k + 1) = sNews (mRd U) g m t i k := by rw [sNews]; exact if_neg c_35
        exact ih (m - (k + 1)) (by omega) (k + 1) _ _ _ _ _ _ _ rfl (by omega) (nI_inc k) (by rw [e]) (by rw [e]) hk hM hs
      · simp only [zb_eq0, Bool.not_eq_false, Bool.not_eq_true, decide_eq_true_eq, decide_eq_false_iff_not, Decidable.not_not, hk.1] at c_35
        refine aw_aload_n (pc' := 39) eX7_news_38 rfl rfl trivial ?_
        refine aw_iload (pc' := 41) eX7_news_39 rfl rfl ?_
        refine aw_iconst (pc' := 42) (v := 4) eX7_news_41 rfl (by decide) ?_
        refine aw_callv (pc' := 45) (nn := 2) (c_one (d := d - 1) hM k 4 (by omega) (by omega)) eX7_news_42 rfl ⟨q901, q904, q62⟩ q903 q22 ⟨rfl, by decide +kernel, by decide +kernel, by decide +kernel⟩ rfl (by rw [hM.2.1]; exact ⟨rfl, rfl⟩) rfl ⟨by omega, by decide⟩ ⟨by omega, by omega⟩ rfl (Nat.le_of_ble_eq_true rfl) (fun v4 h5 hq6 => ?_)
        obtain ⟨rfl, rfl⟩ := hq6
        dsimp only [Option.toList, List.cons_append, List.nil_append]
        refine aw_istore (pc' := 47) eX7_news_45 rfl (by decide) ?_
        dsimp only [zst, zst2, zcut]
        refine aw_aload_n (pc' := 48) eX7_news_47 rfl rfl trivial ?_
        refine aw_iload (pc' := 50) eX7_news_48 rfl rfl ?_
        refine aw_callv (pc' := 53) (nn := 1) (c_X7_says (d := d - 1) hM k (by omega) (by omega)) eX7_news_50 rfl ⟨q997, q1000, q62⟩ q999 q45 ⟨rfl, by decide +kernel, by decide +kernel, by decide +kernel⟩ rfl (by rw [hM.2.1]; exact ⟨rfl, rfl⟩) rfl ⟨by omega, by decide⟩ ⟨by omega, by omega⟩ rfl (Nat.le_of_ble_eq_true rfl) (fun v9 h10 hq11 => ?_)
        obtain ⟨rfl, hM7, hs8⟩ := hq11
        dsimp only [Option.toList, List.cons_append, List.nil_append]
        have kc : MK n (sSays g k) U (mg U1 (sSays (U1.1 1) k)) := by rw [hk.1]; exact hk.mg
        refine aw_aload_n (pc' := 54) eX7_news_53 rfl rfl trivial ?_
        refine aw_iload_n (pc' := 55) eX7_news_54 rfl rfl ?_
        refine aw_iconst (pc' := 56) (v := 2) eX7_news_55 rfl (by decide) ?_
        refine aw_callv (pc' := 59) (nn := 2) (c_X7_comes (d := d - 1) kc hM7 hz (sSays_ok (by omega) hg) (n := n) (by omega) (i := i) (by omega) 2 (by omega) (by omega)) eX7_news_56 rfl ⟨q966, q969, q62⟩ q968 q38 ⟨rfl, by decide +kernel, by decide +kernel, by decide +kernel⟩ rfl (by rw [hM7.2.1]; exact ⟨rfl, rfl⟩) rfl ⟨by omega, by decide⟩ ⟨by omega, by omega⟩ rfl (Nat.le_of_ble_eq_true rfl) (fun v16 h17 hq18 => ?_)
        obtain ⟨rfl, V14, hM12, k15, hs13⟩ := hq18
        have hT19 := hs8.tr hs13
        dsimp only [Option.toList, List.cons_append, List.nil_append]
        refine aw_calls (pc' := 62) (nn := 1) (c_X7_late (d := d - 1) _ (by omega)) eX7_news_59 rfl ⟨q990, q992, q62⟩ q991 ⟨by decide +kernel, by decide +kernel, by decide +kernel⟩ rfl ⟨by omega, by decide⟩ ⟨by omega, by omega⟩ rfl (Nat.le_of_ble_eq_true rfl) (fun v20 h21 hq22 => ?_)
        obtain ⟨rfl, rfl⟩ := hq22
        dsimp only [Option.toList, List.cons_append, List.nil_append]
        refine aw_istore (pc' := 64) eX7_news_62 rfl (by decide) ?_
        dsimp only [zst, zst2, zcut]
        refine aw_aload_n (pc' := 65) eX7_news_64 rfl rfl trivial ?_
        refine aw_iload (pc' := 67) eX7_news_65 rfl rfl ?_
        refine aw_iconst (pc' := 68) (v := 3) eX7_news_67 rfl (by decide) ?_
        refine aw_iconst (pc' := 69) (v := 0) eX7_news_68 rfl (by decide) ?_
        refine aw_callv (pc' := 72) (nn := 3) (c_change (d := d - 1) hM12 k 3 _ (by omega) (by omega)) eX7_news_69 rfl ⟨q986, q989, q62⟩ q988 q43 ⟨rfl, by decide +kernel, by decide +kernel, by decide +kernel⟩ rfl (by rw [hM12.2.1]; exact ⟨rfl, rfl⟩) rfl ⟨by omega, by decide⟩ ⟨by omega, by omega⟩ rfl (Nat.le_of_ble_eq_true rfl) (fun v25 h26 hq27 => ?_)
        obtain ⟨rfl, hM23, hs24⟩ := hq27
        have hT28 := hT19.tr hs24
        dsimp only [Option.toList, List.cons_append, List.nil_append]
        refine aw_pop (pc' := 73) eX7_news_72 rfl rfl ?_
        refine aw_aload_n (pc' := 74) eX7_news_73 rfl rfl trivial ?_
        refine aw_iload (pc' := 76) eX7_news_74 rfl rfl ?_
        refine aw_iconst (pc' := 77) (v := 4) eX7_news_76 rfl (by decide) ?_
        refine aw_iload (pc' := 79) eX7_news_77 rfl rfl ?_
        refine aw_callv (pc' := 82) (nn := 3) (c_change (d := d - 1) hM23 k 4 _ (by omega) (by omega)) eX7_news_79 rfl ⟨q986, q989, q62⟩ q988 q43 ⟨rfl, by decide +kernel, by decide +kernel, by decide +kernel⟩ rfl (by rw [hM23.2.1]; exact ⟨rfl, rfl⟩) rfl ⟨by omega, by decide⟩ ⟨by omega, by omega⟩ rfl (Nat.le_of_ble_eq_true rfl) (fun v31 h32 hq33 => ?_)
        obtain ⟨rfl, hM29, hs30⟩ := hq33
        have hT34 := hT28.tr hs30
        dsimp only [Option.toList, List.cons_append, List.nil_append]
        refine aw_pop (pc' := 83) eX7_news_82 rfl rfl ?_
        refine aw_iload (pc' := 85) eX7_news_83 rfl rfl ?_
        refine aw_iload_n (pc' := 86) eX7_news_85 rfl rfl ?_
        refine aw_icmp_ge (pc' := 89) (tgt := 94) eX7_news_86 rfl (by decide) (fun c_86 => ?_) (fun c_86 => ?_)
        · refine aw_iload_n (pc' := 95) eX7_news_94 rfl rfl ?_
          refine aw_istore_n (pc' := 96) eX7_news_95 rfl (by decide) ?_
          dsimp only [zst, zst2, zcut]
          refine aw_iload (pc' := 98) eX7_news_96 rfl rfl ?_
          refine aw_iload_n (pc' := 99) eX7_news_98 rfl rfl ?_
          refine aw_mmin (pc' := 102) eX7_news_99 rfl q961 q326 q63 q327 (by omega) ⟨by omega, by omega⟩ (Nat.le_of_ble_eq_true rfl) ?_
          refine aw_istore_n (pc' := 103) eX7_news_102 rfl (by decide) ?_
          dsimp only [zst, zst2, zcut]
          refine aw_iinc (pc' := 106) eX7_news_103 rfl rfl rfl (by decide) ?_
          dsimp only [zst, zst2, zcut]
          refine aw_goto eX7_news_106 (by decide) (tgt := 16) ?_
          have k9 : MK n (upd (upd (sSays g k) (10 * k + 3) 0) (10 * k + 4) (U1.1 1 (10 * k + 4))) U (mup (mup V14 1 (10 * k + 3) 0) 1 (10 * k + 4) (U1.1 1 (10 * k + 4))) := ((k15).up).up
          have eg : upd (upd (sSays g k) (10 * k + 3) 0) (10 * k + 4) (U1.1 1 (10 * k + 4)) = g := by rw [hk.1]; exact sSays_undo c_35
          rw [eg] at k9
          have e : sNews (mRd U) g m t i (k + 1) = (if sLate (sCome (mRd U) m 2 i 61 0 t (sSays g k)) < (sNews (mRd U) g m t i k).2 then nI k else (sNews (mRd U) g m t i k).1, if (sNews (mRd U) g m t i k).2 < sLate (sCome (mRd U) m 2 i 61 0 t (sSays g k)) then (sNews (mRd U) g m t i k).2 else sLate (sCome (mRd U) m 2 i 61 0 t (sSays g k))) := by rw [sNews]; exact if_pos c_35
          exact ih (m - (k + 1)) (by omega) (k + 1) _ _ _ _ _ _ _ rfl (by omega) (nI_inc k) (by rw [e]; exact (if_neg (by first | exact Int32.not_lt.mpr c_86 | exact c_86)).symm) (by rw [e]) k9 hM29 (hs.tr hT34)
        · refine aw_iload (pc' := 91) eX7_news_89 rfl rfl ?_
          refine aw_goto eX7_news_91 (by decide) (tgt := 95) ?_
          refine aw_istore_n (pc' := 96) eX7_news_95 rfl (by decide) ?_
          dsimp only [zst, zst2, zcut]
          refine aw_iload (pc' := 98) eX7_news_96 rfl rfl ?_
          refine aw_iload_n (pc' := 99) eX7_news_98 rfl rfl ?_
          refine aw_mmin (pc' := 102) eX7_news_99 rfl q961 q326 q63 q327 (by omega) ⟨by omega, by omega⟩ (Nat.le_of_ble_eq_true rfl) ?_
          refine aw_istore_n (pc' := 103) eX7_news_102 rfl (by decide) ?_
          dsimp only [zst, zst2, zcut]
          refine aw_iinc (pc' := 106) eX7_news_103 rfl rfl rfl (by decide) ?_
          dsimp only [zst, zst2, zcut]
          refine aw_goto eX7_news_106 (by decide) (tgt := 16) ?_
          have k9 : MK n (upd (upd (sSays g k) (10 * k + 3) 0) (10 * k + 4) (U1.1 1 (10 * k + 4))) U (mup (mup V14 1 (10 * k + 3) 0) 1 (10 * k + 4) (U1.1 1 (10 * k + 4))) := ((k15).up).up
          have eg : upd (upd (sSays g k) (10 * k + 3) 0) (10 * k + 4) (U1.1 1 (10 * k + 4)) = g := by rw [hk.1]; exact sSays_undo c_35
          rw [eg] at k9
          have e : sNews (mRd U) g m t i (k + 1) = (if sLate (sCome (mRd U) m 2 i 61 0 t (sSays g k)) < (sNews (mRd U) g m t i k).2 then nI k else (sNews (mRd U) g m t i k).1, if (sNews (mRd U) g m t i k).2 < sLate (sCome (mRd U) m 2 i 61 0 t (sSays g k)) then (sNews (mRd U) g m t i k).2 else sLate (sCome (mRd U) m 2 i 61 0 t (sSays g k))) := by rw [sNews]; exact if_pos c_35
          exact ih (m - (k + 1)) (by omega) (k + 1) _ _ _ _ _ _ _ rfl (by omega) (nI_inc k) (by rw [e]; exact (if_pos (by first | exact c_86 | exact Int32.not_le.mp c_86)).symm) (by rw [e]) k9 hM29 (hs.tr hT34)
theorem c_X7_news (hk : MK n g U U1) (hM : MAt h u U1) (hz : mZ U) (hg : gOk g m t) (hn : 1 ≤ n) {i : Nat} (hi : i < 6) (ht6 : t ≤ 1000000000) (hd : 26 ≤ d) : Ct l G mX7_news yX7_news d 0 0 [.ref u, .int (nI i)] h (fun r h' => r = some (.int (sNews (mRd U) g m t i m).1) ∧ ∃ U', MAt h' u U' ∧ MK n g U U' ∧ Same u 19 h h') := by
  refine ct_of (lv := [some (.ref u), some (.int (nI i)), none, none, none, none, none]) (by decide +kernel) rfl (fun z => by cases z) (fun _ => rfl) (fun _ => Nat.le_of_ble_eq_true rfl) ?_
  refine aw_bipush (pc' := 2) (v := -5) eX7_news_0 rfl (by decide) ?_
  refine aw_istore_n (pc' := 3) eX7_news_2 rfl (by decide) ?_
  dsimp only [zst, zst2, zcut]
  refine aw_aload_n (pc' := 4) eX7_news_3 rfl rfl trivial ?_
  refine aw_iload_n (pc' := 5) eX7_news_4 rfl rfl ?_
  refine aw_iconst (pc' := 6) (v := 2) eX7_news_5 rfl (by decide) ?_
  refine aw_callv (pc' := 9) (nn := 2) (c_X7_comes (d := d - 1) hk hM hz hg (n := n) (by omega) (i := i) (by omega) 2 (by omega) (by omega)) eX7_news_6 rfl ⟨q966, q969, q62⟩ q968 q38 ⟨rfl, by decide +kernel, by decide +kernel, by decide +kernel⟩ rfl (by rw [hM.2.1]; exact ⟨rfl, rfl⟩) rfl ⟨by omega, by decide⟩ ⟨by omega, by omega⟩ rfl (Nat.le_of_ble_eq_true rfl) (fun v5 h6 hq7 => ?_)
  obtain ⟨rfl, V3, hM1, k4, hs2⟩ := hq7
  dsimp only [Option.toList, List.cons_append, List.nil_append]
  refine aw_calls (pc' := 12) (nn := 1) (c_X7_late (d := d - 1) _ (by omega)) eX7_news_9 rfl ⟨q990, q992, q62⟩ q991 ⟨by decide +kernel, by decide +kernel, by decide +kernel⟩ rfl ⟨by omega, by decide⟩ ⟨by omega, by omega⟩ rfl (Nat.le_of_ble_eq_true rfl) (fun v8 h9 hq10 => ?_)
  obtain ⟨rfl, rfl⟩ := hq10
  dsimp only [Option.toList, List.cons_append, List.nil_append]
  refine aw_istore_n (pc' := 13) eX7_news_12 rfl (by decide) ?_
  dsimp only [zst, zst2, zcut]
  refine aw_iconst (pc' := 14) (v := 0) eX7_news_13 rfl (by decide) ?_
  refine aw_istore (pc' := 16) eX7_news_14 rfl (by decide) ?_
  dsimp only [zst, zst2, zcut]
  exact lp_X7_news hz hg hn hi ht6 hd (fun h' U' a b c => ⟨rfl, U', a, b, c⟩) m 0 _ _ _ _ _ _ _ (by omega) (by omega) rfl rfl rfl k4 hM1 hs2
theorem bI6 : bIn 6 0 5 = false := by decide
theorem bI7 : bIn 7 0 5 = false := by decide
theorem bI8 : bIn 8 0 5 = false := by decide
def sOf (F : FT) (g : Nat → Int32) (m t : Nat) (tl w : Int32) : Int32 := if bIn tl 0 (nI m - 1) = true then (if bIn w 0 5 = true then g (10 * tl.toNatClampNeg + w.toNatClampNeg) else if w = 6 then lod F g m t tl.toNatClampNeg else if w = 7 then (sBlow F g m t tl.toNatClampNeg 10).1 else if w = 8 then (sNews F g m t tl.toNatClampNeg m).1 else if bIn w 12 14 = true then sCome F m (w - 10) tl.toNatClampNeg 61 0 t g else -10001) else -10001
abbrev mX7_of : MT := (RX7, cX7_of, 3, (some .int), false)
theorem eX7_of_0 : decode mX7_of.2.1 0 = .ok (.aload_n 0, 1) := by decide +kernel
theorem eX7_of_1 : decode mX7_of.2.1 1 = .ok (.iload_n 1, 1) := by decide +kernel
theorem eX7_of_2 : decode mX7_of.2.1 2 = .ok (.invokevirtual 88, 3) := by decide +kernel
theorem eX7_of_5 : decode mX7_of.2.1 5 = .ok (.ifCond .ne 7, 3) := by decide +kernel
theorem eX7_of_8 : decode mX7_of.2.1 8 = .ok (.sipush (-10001), 3) := by decide +kernel
theorem eX7_of_11 : decode mX7_of.2.1 11 = .ok (.ireturn, 1) := by decide +kernel
theorem eX7_of_12 : decode mX7_of.2.1 12 = .ok (.iload_n 2, 1) := by decide +kernel
theorem eX7_of_13 : decode mX7_of.2.1 13 = .ok (.iconst 0, 1) := by decide +kernel
theorem eX7_of_14 : decode mX7_of.2.1 14 = .ok (.iconst 5, 1) := by decide +kernel
theorem eX7_of_15 : decode mX7_of.2.1 15 = .ok (.invokestatic 80, 3) := by decide +kernel
theorem eX7_of_18 : decode mX7_of.2.1 18 = .ok (.ifCond .eq 10, 3) := by decide +kernel
theorem eX7_of_21 : decode mX7_of.2.1 21 = .ok (.aload_n 0, 1) := by decide +kernel
theorem eX7_of_22 : decode mX7_of.2.1 22 = .ok (.iload_n 1, 1) := by decide +kernel
theorem eX7_of_23 : decode mX7_of.2.1 23 = .ok (.iload_n 2, 1) := by decide +kernel
theorem eX7_of_24 : decode mX7_of.2.1 24 = .ok (.invokevirtual 84, 3) := by decide +kernel
theorem eX7_of_27 : decode mX7_of.2.1 27 = .ok (.ireturn, 1) := by decide +kernel
theorem eX7_of_28 : decode mX7_of.2.1 28 = .ok (.iload_n 2, 1) := by decide +kernel
theorem eX7_of_29 : decode mX7_of.2.1 29 = .ok (.bipush 6, 2) := by decide +kernel
theorem eX7_of_31 : decode mX7_of.2.1 31 = .ok (.if_icmp .ne 11, 3) := by decide +kernel
theorem eX7_of_34 : decode mX7_of.2.1 34 = .ok (.aload_n 0, 1) := by decide +kernel
theorem eX7_of_35 : decode mX7_of.2.1 35 = .ok (.iload_n 1, 1) := by decide +kernel
theorem eX7_of_36 : decode mX7_of.2.1 36 = .ok (.invokevirtual 92, 3) := by decide +kernel
theorem eX7_of_39 : decode mX7_of.2.1 39 = .ok (.goto 57, 3) := by decide +kernel
theorem eX7_of_42 : decode mX7_of.2.1 42 = .ok (.iload_n 2, 1) := by decide +kernel
theorem eX7_of_43 : decode mX7_of.2.1 43 = .ok (.bipush 7, 2) := by decide +kernel
theorem eX7_of_45 : decode mX7_of.2.1 45 = .ok (.if_icmp .ne 11, 3) := by decide +kernel
theorem eX7_of_48 : decode mX7_of.2.1 48 = .ok (.aload_n 0, 1) := by decide +kernel
theorem eX7_of_49 : decode mX7_of.2.1 49 = .ok (.iload_n 1, 1) := by decide +kernel
theorem eX7_of_50 : decode mX7_of.2.1 50 = .ok (.invokevirtual 96, 3) := by decide +kernel
theorem eX7_of_53 : decode mX7_of.2.1 53 = .ok (.goto 43, 3) := by decide +kernel
theorem eX7_of_56 : decode mX7_of.2.1 56 = .ok (.iload_n 2, 1) := by decide +kernel
theorem eX7_of_57 : decode mX7_of.2.1 57 = .ok (.bipush 8, 2) := by decide +kernel
theorem eX7_of_59 : decode mX7_of.2.1 59 = .ok (.if_icmp .ne 11, 3) := by decide +kernel
theorem eX7_of_62 : decode mX7_of.2.1 62 = .ok (.aload_n 0, 1) := by decide +kernel
theorem eX7_of_63 : decode mX7_of.2.1 63 = .ok (.iload_n 1, 1) := by decide +kernel
theorem eX7_of_64 : decode mX7_of.2.1 64 = .ok (.invokevirtual 99, 3) := by decide +kernel
theorem eX7_of_67 : decode mX7_of.2.1 67 = .ok (.goto 29, 3) := by decide +kernel
theorem eX7_of_70 : decode mX7_of.2.1 70 = .ok (.iload_n 2, 1) := by decide +kernel
theorem eX7_of_71 : decode mX7_of.2.1 71 = .ok (.bipush 12, 2) := by decide +kernel
theorem eX7_of_73 : decode mX7_of.2.1 73 = .ok (.bipush 14, 2) := by decide +kernel
theorem eX7_of_75 : decode mX7_of.2.1 75 = .ok (.invokestatic 80, 3) := by decide +kernel
theorem eX7_of_78 : decode mX7_of.2.1 78 = .ok (.ifCond .eq 15, 3) := by decide +kernel
theorem eX7_of_81 : decode mX7_of.2.1 81 = .ok (.aload_n 0, 1) := by decide +kernel
theorem eX7_of_82 : decode mX7_of.2.1 82 = .ok (.iload_n 1, 1) := by decide +kernel
theorem eX7_of_83 : decode mX7_of.2.1 83 = .ok (.iload_n 2, 1) := by decide +kernel
theorem eX7_of_84 : decode mX7_of.2.1 84 = .ok (.bipush 10, 2) := by decide +kernel
theorem eX7_of_86 : decode mX7_of.2.1 86 = .ok (.isub, 1) := by decide +kernel
theorem eX7_of_87 : decode mX7_of.2.1 87 = .ok (.invokevirtual 102, 3) := by decide +kernel
theorem eX7_of_90 : decode mX7_of.2.1 90 = .ok (.goto 6, 3) := by decide +kernel
theorem eX7_of_93 : decode mX7_of.2.1 93 = .ok (.sipush (-10001), 3) := by decide +kernel
theorem eX7_of_96 : decode mX7_of.2.1 96 = .ok (.ireturn, 1) := by decide +kernel
theorem c_X7_of (hM : MAt h u U) (hz : mZ U) (hg : gOk (U.1 1) m t) (ht6 : t ≤ 1000000) (tl w : Int32) (hd : 27 ≤ d) : Ct l G mX7_of yX7_of d 0 0 [.ref u, .int tl, .int w] h (fun r h' => r = some (.int (sOf (mRd U) (U.1 1) m t tl w)) ∧ ∃ U', MAt h' u U' ∧ MK 2 (U.1 1) U U' ∧ Same u 19 h h') := by
  refine ct_of (lv := [some (.ref u), some (.int tl), some (.int w)]) (by decide +kernel) rfl (fun z => by cases z) (fun _ => rfl) (fun _ => Nat.le_of_ble_eq_true rfl) ?_
  have hgg := hg
  obtain ⟨hm, hm6, ht, ht2, hgq⟩ := hgg
  refine aw_aload_n (pc' := 1) eX7_of_0 rfl rfl trivial ?_
  refine aw_iload_n (pc' := 2) eX7_of_1 rfl rfl ?_
  refine aw_callv (pc' := 5) (nn := 1) (c_X7_isOne (d := d - 1) hM _ (by omega)) eX7_of_2 rfl ⟨q897, q900, q62⟩ q899 q21 ⟨rfl, by decide +kernel, by decide +kernel, by decide +kernel⟩ rfl (by rw [hM.2.1]; exact ⟨rfl, rfl⟩) rfl ⟨by omega, by decide⟩ ⟨by omega, by omega⟩ rfl (Nat.le_of_ble_eq_true rfl) (fun v1 h2 hq3 => ?_)
  obtain ⟨rfl, rfl⟩ := hq3
  dsimp only [Option.toList, List.cons_append, List.nil_append]
  refine aw_if_ne (pc' := 8) (tgt := 12) eX7_of_5 rfl (by decide) (fun c_5 => ?_) (fun c_5 => ?_)
  · simp only [zb_eq0, Bool.not_eq_false, Bool.not_eq_true, decide_eq_true_eq, decide_eq_false_iff_not, Decidable.not_not, hm] at c_5
    have c5 := c_5
    obtain ⟨i, hi, rfl⟩ := (bIn_one hm6).mp c5
    have cli : (nI i).toNatClampNeg = i := nI_clamp (by omega)
    have hk : MK 2 (U.1 1) U U := MK.rf
    refine aw_iload_n (pc' := 13) eX7_of_12 rfl rfl ?_
    refine aw_iconst (pc' := 14) (v := 0) eX7_of_13 rfl (by decide) ?_
    refine aw_iconst (pc' := 15) (v := 5) eX7_of_14 rfl (by decide) ?_
    refine aw_calls (pc' := 18) (nn := 3) (c_X7_isIn (d := d - 1) _ _ _ (by omega)) eX7_of_15 rfl ⟨q890, q892, q62⟩ q891 ⟨by decide +kernel, by decide +kernel, by decide +kernel⟩ rfl ⟨by omega, by decide⟩ ⟨by omega, by omega⟩ rfl (Nat.le_of_ble_eq_true rfl) (fun v4 h5 hq6 => ?_)
    obtain ⟨rfl, rfl⟩ := hq6
    dsimp only [Option.toList, List.cons_append, List.nil_append]
    refine aw_if_eq (pc' := 21) (tgt := 28) eX7_of_18 rfl (by decide) (fun c_18 => ?_) (fun c_18 => ?_)
    · refine aw_iload_n (pc' := 29) eX7_of_28 rfl rfl ?_
      refine aw_bipush (pc' := 31) (v := 6) eX7_of_29 rfl (by decide) ?_
      refine aw_icmp_ne (pc' := 34) (tgt := 42) eX7_of_31 rfl (by decide) (fun c_31 => ?_) (fun c_31 => ?_)
      · refine aw_iload_n (pc' := 43) eX7_of_42 rfl rfl ?_
        refine aw_bipush (pc' := 45) (v := 7) eX7_of_43 rfl (by decide) ?_
        refine aw_icmp_ne (pc' := 48) (tgt := 56) eX7_of_45 rfl (by decide) (fun c_45 => ?_) (fun c_45 => ?_)
        · refine aw_iload_n (pc' := 57) eX7_of_56 rfl rfl ?_
          refine aw_bipush (pc' := 59) (v := 8) eX7_of_57 rfl (by decide) ?_
          refine aw_icmp_ne (pc' := 62) (tgt := 70) eX7_of_59 rfl (by decide) (fun c_59 => ?_) (fun c_59 => ?_)
          · refine aw_iload_n (pc' := 71) eX7_of_70 rfl rfl ?_
            refine aw_bipush (pc' := 73) (v := 12) eX7_of_71 rfl (by decide) ?_
            refine aw_bipush (pc' := 75) (v := 14) eX7_of_73 rfl (by decide) ?_
            refine aw_calls (pc' := 78) (nn := 3) (c_X7_isIn (d := d - 1) _ _ _ (by omega)) eX7_of_75 rfl ⟨q890, q892, q62⟩ q891 ⟨by decide +kernel, by decide +kernel, by decide +kernel⟩ rfl ⟨by omega, by decide⟩ ⟨by omega, by omega⟩ rfl (Nat.le_of_ble_eq_true rfl) (fun v7 h8 hq9 => ?_)
            obtain ⟨rfl, rfl⟩ := hq9
            dsimp only [Option.toList, List.cons_append, List.nil_append]
            refine aw_if_eq (pc' := 81) (tgt := 93) eX7_of_78 rfl (by decide) (fun c_78 => ?_) (fun c_78 => ?_)
            · refine aw_sipush (pc' := 96) (v := -10001) eX7_of_93 rfl (by decide) ?_
              refine aw_ret (v := some (.int _)) eX7_of_96 ⟨rfl, rfl⟩ (by omega) (by omega) rfl ?_
              simp only [zb_eq0, Bool.not_eq_false, Bool.not_eq_true, decide_eq_true_eq, decide_eq_false_iff_not, Decidable.not_not] at c_18
              simp only [zb_eq0, Bool.not_eq_false, Bool.not_eq_true, decide_eq_true_eq, decide_eq_false_iff_not, Decidable.not_not] at c_78
              exact ⟨by simp [sOf, c_5, cli, c_5, c_18, c_31, c_45, c_59, c_78, bI6, bI7, bI8], _, hM, hk, Same.rf⟩
            · refine aw_aload_n (pc' := 82) eX7_of_81 rfl rfl trivial ?_
              refine aw_iload_n (pc' := 83) eX7_of_82 rfl rfl ?_
              refine aw_iload_n (pc' := 84) eX7_of_83 rfl rfl ?_
              refine aw_bipush (pc' := 86) (v := 10) eX7_of_84 rfl (by decide) ?_
              refine aw_isub (pc' := 87) eX7_of_86 rfl ?_
              refine aw_callv (pc' := 90) (nn := 2) (c_X7_comes (d := d - 1) hk hM hz hg (n := 2) (by omega) (i := i) (by omega) (w - 10) (by omega) (by omega)) eX7_of_87 rfl ⟨q966, q969, q62⟩ q968 q38 ⟨rfl, by decide +kernel, by decide +kernel, by decide +kernel⟩ rfl (by rw [hM.2.1]; exact ⟨rfl, rfl⟩) rfl ⟨by omega, by decide⟩ ⟨by omega, by omega⟩ rfl (Nat.le_of_ble_eq_true rfl) (fun v14 h15 hq16 => ?_)
              obtain ⟨rfl, V12, hM10, k13, hs11⟩ := hq16
              dsimp only [Option.toList, List.cons_append, List.nil_append]
              refine aw_goto eX7_of_90 (by decide) (tgt := 96) ?_
              refine aw_ret (v := some (.int _)) eX7_of_96 ⟨rfl, rfl⟩ (by omega) (by omega) rfl ?_
              simp only [zb_eq0, Bool.not_eq_false, Bool.not_eq_true, decide_eq_true_eq, decide_eq_false_iff_not, Decidable.not_not] at c_18
              simp only [zb_eq0, Bool.not_eq_false, Bool.not_eq_true, decide_eq_true_eq, decide_eq_false_iff_not, Decidable.not_not] at c_78
              exact ⟨by simp [sOf, c_5, cli, c_5, c_18, c_31, c_45, c_59, c_78, bI6, bI7, bI8], _, hM10, k13, hs11⟩
          · refine aw_aload_n (pc' := 63) eX7_of_62 rfl rfl trivial ?_
            refine aw_iload_n (pc' := 64) eX7_of_63 rfl rfl ?_
            refine aw_callv (pc' := 67) (nn := 1) (c_X7_news (d := d - 1) hk hM hz hg (n := 2) (by omega) (i := i) (by omega) (by omega) (by omega)) eX7_of_64 rfl ⟨q993, q996, q62⟩ q995 q44 ⟨rfl, by decide +kernel, by decide +kernel, by decide +kernel⟩ rfl (by rw [hM.2.1]; exact ⟨rfl, rfl⟩) rfl ⟨by omega, by decide⟩ ⟨by omega, by omega⟩ rfl (Nat.le_of_ble_eq_true rfl) (fun v21 h22 hq23 => ?_)
            obtain ⟨rfl, V19, hM17, k20, hs18⟩ := hq23
            dsimp only [Option.toList, List.cons_append, List.nil_append]
            refine aw_goto eX7_of_67 (by decide) (tgt := 96) ?_
            refine aw_ret (v := some (.int _)) eX7_of_96 ⟨rfl, rfl⟩ (by omega) (by omega) rfl ?_
            simp only [zb_eq0, Bool.not_eq_false, Bool.not_eq_true, decide_eq_true_eq, decide_eq_false_iff_not, Decidable.not_not] at c_18
            exact ⟨by simp [sOf, c_5, cli, c_5, c_18, c_31, c_45, c_59, bI6, bI7, bI8], _, hM17, k20, hs18⟩
        · refine aw_aload_n (pc' := 49) eX7_of_48 rfl rfl trivial ?_
          refine aw_iload_n (pc' := 50) eX7_of_49 rfl rfl ?_
          refine aw_callv (pc' := 53) (nn := 1) (c_X7_blow (d := d - 1) hk hM hz hg (n := 2) (by omega) (i := i) (by omega) (by omega) (by omega)) eX7_of_50 rfl ⟨q962, q965, q62⟩ q964 q37 ⟨rfl, by decide +kernel, by decide +kernel, by decide +kernel⟩ rfl (by rw [hM.2.1]; exact ⟨rfl, rfl⟩) rfl ⟨by omega, by decide⟩ ⟨by omega, by omega⟩ rfl (Nat.le_of_ble_eq_true rfl) (fun v28 h29 hq30 => ?_)
          obtain ⟨rfl, V26, hM24, k27, hs25⟩ := hq30
          dsimp only [Option.toList, List.cons_append, List.nil_append]
          refine aw_goto eX7_of_53 (by decide) (tgt := 96) ?_
          refine aw_ret (v := some (.int _)) eX7_of_96 ⟨rfl, rfl⟩ (by omega) (by omega) rfl ?_
          simp only [zb_eq0, Bool.not_eq_false, Bool.not_eq_true, decide_eq_true_eq, decide_eq_false_iff_not, Decidable.not_not] at c_18
          exact ⟨by simp [sOf, c_5, cli, c_5, c_18, c_31, c_45, bI6, bI7, bI8], _, hM24, k27, hs25⟩
      · refine aw_aload_n (pc' := 35) eX7_of_34 rfl rfl trivial ?_
        refine aw_iload_n (pc' := 36) eX7_of_35 rfl rfl ?_
        refine aw_callv (pc' := 39) (nn := 1) (c_X7_load (d := d - 1) hk hM hz hg (i := i) (by omega) (by omega)) eX7_of_36 rfl ⟨q905, q908, q62⟩ q907 q23 ⟨rfl, by decide +kernel, by decide +kernel, by decide +kernel⟩ rfl (by rw [hM.2.1]; exact ⟨rfl, rfl⟩) rfl ⟨by omega, by decide⟩ ⟨by omega, by omega⟩ rfl (Nat.le_of_ble_eq_true rfl) (fun v35 h36 hq37 => ?_)
        obtain ⟨rfl, V33, hM31, k34, hs32⟩ := hq37
        dsimp only [Option.toList, List.cons_append, List.nil_append]
        refine aw_goto eX7_of_39 (by decide) (tgt := 96) ?_
        refine aw_ret (v := some (.int _)) eX7_of_96 ⟨rfl, rfl⟩ (by omega) (by omega) rfl ?_
        simp only [zb_eq0, Bool.not_eq_false, Bool.not_eq_true, decide_eq_true_eq, decide_eq_false_iff_not, Decidable.not_not] at c_18
        exact ⟨by simp [sOf, c_5, cli, c_5, c_18, c_31, bI6, bI7, bI8], _, hM31, k34, hs32⟩
    · have c18 := c_18
      simp only [zb_eq0, Bool.not_eq_false, Bool.not_eq_true, decide_eq_true_eq, decide_eq_false_iff_not, Decidable.not_not] at c18
      obtain ⟨w2, hw2, rfl⟩ := (bIn_lit (N := 5) (by omega)).mp c18
      have clw : (nI w2).toNatClampNeg = w2 := nI_clamp (by omega)
      refine aw_aload_n (pc' := 22) eX7_of_21 rfl rfl trivial ?_
      refine aw_iload_n (pc' := 23) eX7_of_22 rfl rfl ?_
      refine aw_iload_n (pc' := 24) eX7_of_23 rfl rfl ?_
      refine aw_callv (pc' := 27) (nn := 2) (c_one (d := d - 1) hM i w2 (by omega) (by omega)) eX7_of_24 rfl ⟨q901, q904, q62⟩ q903 q22 ⟨rfl, by decide +kernel, by decide +kernel, by decide +kernel⟩ rfl (by rw [hM.2.1]; exact ⟨rfl, rfl⟩) rfl ⟨by omega, by decide⟩ ⟨by omega, by omega⟩ rfl (Nat.le_of_ble_eq_true rfl) (fun v38 h39 hq40 => ?_)
      obtain ⟨rfl, rfl⟩ := hq40
      dsimp only [Option.toList, List.cons_append, List.nil_append]
      refine aw_ret (v := some (.int _)) eX7_of_27 ⟨rfl, rfl⟩ (by omega) (by omega) rfl ?_
      simp only [zb_eq0, Bool.not_eq_false, Bool.not_eq_true, decide_eq_true_eq, decide_eq_false_iff_not, Decidable.not_not] at c_18
      exact ⟨by simp [sOf, c_5, cli, c_5, c_18, clw, bI6, bI7, bI8], _, hM, hk, Same.rf⟩
  · refine aw_sipush (pc' := 11) (v := -10001) eX7_of_8 rfl (by decide) ?_
    refine aw_ret (v := some (.int _)) eX7_of_11 ⟨rfl, rfl⟩ (by omega) (by omega) rfl ?_
    simp only [zb_eq0, Bool.not_eq_false, Bool.not_eq_true, decide_eq_true_eq, decide_eq_false_iff_not, Decidable.not_not, hm] at c_5
    exact ⟨by simp [sOf, c_5], U, hM, MK.rf, Same.rf⟩
def sTold (F : FT) (g : Nat → Int32) (m t : Nat) (w : Int32) : Int32 := if w = 0 then g 67 else if w = 1 then (F g 0).2 else if w = 2 then g 61 else if w = 3 then g 62 else if w = 4 then sCnt g 4 m else if w = 5 then sWhich g 1 m else if w = 6 then sLoads F g m t m else if bIn w 10 13 = true then g (53 + w.toNatClampNeg) else -10001
theorem nI_subn {a b : Nat} : nI (a + b) - nI b = nI a := by
  have e : nI (a + b) = nI a + nI b := (nI_add a b).symm
  rw [e, Int32.add_sub_cancel]
abbrev mX7_told : MT := (RX7, cX7_told, 2, (some .int), false)
theorem eX7_told_0 : decode mX7_told.2.1 0 = .ok (.iload_n 1, 1) := by decide +kernel
theorem eX7_told_1 : decode mX7_told.2.1 1 = .ok (.tableswitch 89 0 6 #[43, 51, 56, 64, 72, 78, 84], 43) := by decide +kernel
theorem eX7_told_44 : decode mX7_told.2.1 44 = .ok (.aload_n 0, 1) := by decide +kernel
theorem eX7_told_45 : decode mX7_told.2.1 45 = .ok (.getfield 15, 3) := by decide +kernel
theorem eX7_told_48 : decode mX7_told.2.1 48 = .ok (.bipush 67, 2) := by decide +kernel
theorem eX7_told_50 : decode mX7_told.2.1 50 = .ok (.iaload, 1) := by decide +kernel
theorem eX7_told_51 : decode mX7_told.2.1 51 = .ok (.ireturn, 1) := by decide +kernel
theorem eX7_told_52 : decode mX7_told.2.1 52 = .ok (.aload_n 0, 1) := by decide +kernel
theorem eX7_told_53 : decode mX7_told.2.1 53 = .ok (.invokevirtual 194, 3) := by decide +kernel
theorem eX7_told_56 : decode mX7_told.2.1 56 = .ok (.ireturn, 1) := by decide +kernel
theorem eX7_told_57 : decode mX7_told.2.1 57 = .ok (.aload_n 0, 1) := by decide +kernel
theorem eX7_told_58 : decode mX7_told.2.1 58 = .ok (.getfield 15, 3) := by decide +kernel
theorem eX7_told_61 : decode mX7_told.2.1 61 = .ok (.bipush 61, 2) := by decide +kernel
theorem eX7_told_63 : decode mX7_told.2.1 63 = .ok (.iaload, 1) := by decide +kernel
theorem eX7_told_64 : decode mX7_told.2.1 64 = .ok (.ireturn, 1) := by decide +kernel
theorem eX7_told_65 : decode mX7_told.2.1 65 = .ok (.aload_n 0, 1) := by decide +kernel
theorem eX7_told_66 : decode mX7_told.2.1 66 = .ok (.getfield 15, 3) := by decide +kernel
theorem eX7_told_69 : decode mX7_told.2.1 69 = .ok (.bipush 62, 2) := by decide +kernel
theorem eX7_told_71 : decode mX7_told.2.1 71 = .ok (.iaload, 1) := by decide +kernel
theorem eX7_told_72 : decode mX7_told.2.1 72 = .ok (.ireturn, 1) := by decide +kernel
theorem eX7_told_73 : decode mX7_told.2.1 73 = .ok (.aload_n 0, 1) := by decide +kernel
theorem eX7_told_74 : decode mX7_told.2.1 74 = .ok (.iconst 4, 1) := by decide +kernel
theorem eX7_told_75 : decode mX7_told.2.1 75 = .ok (.invokevirtual 117, 3) := by decide +kernel
theorem eX7_told_78 : decode mX7_told.2.1 78 = .ok (.ireturn, 1) := by decide +kernel
theorem eX7_told_79 : decode mX7_told.2.1 79 = .ok (.aload_n 0, 1) := by decide +kernel
theorem eX7_told_80 : decode mX7_told.2.1 80 = .ok (.iconst 1, 1) := by decide +kernel
theorem eX7_told_81 : decode mX7_told.2.1 81 = .ok (.invokevirtual 206, 3) := by decide +kernel
theorem eX7_told_84 : decode mX7_told.2.1 84 = .ok (.ireturn, 1) := by decide +kernel
theorem eX7_told_85 : decode mX7_told.2.1 85 = .ok (.aload_n 0, 1) := by decide +kernel
theorem eX7_told_86 : decode mX7_told.2.1 86 = .ok (.invokevirtual 191, 3) := by decide +kernel
theorem eX7_told_89 : decode mX7_told.2.1 89 = .ok (.ireturn, 1) := by decide +kernel
theorem eX7_told_90 : decode mX7_told.2.1 90 = .ok (.iload_n 1, 1) := by decide +kernel
theorem eX7_told_91 : decode mX7_told.2.1 91 = .ok (.bipush 10, 2) := by decide +kernel
theorem eX7_told_93 : decode mX7_told.2.1 93 = .ok (.bipush 13, 2) := by decide +kernel
theorem eX7_told_95 : decode mX7_told.2.1 95 = .ok (.invokestatic 80, 3) := by decide +kernel
theorem eX7_told_98 : decode mX7_told.2.1 98 = .ok (.ifCond .eq 18, 3) := by decide +kernel
theorem eX7_told_101 : decode mX7_told.2.1 101 = .ok (.aload_n 0, 1) := by decide +kernel
theorem eX7_told_102 : decode mX7_told.2.1 102 = .ok (.getfield 15, 3) := by decide +kernel
theorem eX7_told_105 : decode mX7_told.2.1 105 = .ok (.bipush 63, 2) := by decide +kernel
theorem eX7_told_107 : decode mX7_told.2.1 107 = .ok (.iload_n 1, 1) := by decide +kernel
theorem eX7_told_108 : decode mX7_told.2.1 108 = .ok (.iadd, 1) := by decide +kernel
theorem eX7_told_109 : decode mX7_told.2.1 109 = .ok (.bipush 10, 2) := by decide +kernel
theorem eX7_told_111 : decode mX7_told.2.1 111 = .ok (.isub, 1) := by decide +kernel
theorem eX7_told_112 : decode mX7_told.2.1 112 = .ok (.iaload, 1) := by decide +kernel
theorem eX7_told_113 : decode mX7_told.2.1 113 = .ok (.goto 6, 3) := by decide +kernel
theorem eX7_told_116 : decode mX7_told.2.1 116 = .ok (.sipush (-10001), 3) := by decide +kernel
theorem eX7_told_119 : decode mX7_told.2.1 119 = .ok (.ireturn, 1) := by decide +kernel
theorem c_X7_told (hM : MAt h u U) (hz : mZ U) (hg : gOk (U.1 1) m t) (ht6 : t ≤ 1000000) (w : Int32) (hd : 23 ≤ d) : Ct l G mX7_told yX7_told d 0 0 [.ref u, .int w] h (fun r h' => r = some (.int (sTold (mRd U) (U.1 1) m t w)) ∧ ∃ U', MAt h' u U' ∧ MK 0 (U.1 1) U U' ∧ Same u 19 h h') := by
  refine ct_of (lv := [some (.ref u), some (.int w)]) (by decide +kernel) rfl (fun z => by cases z) (fun _ => rfl) (fun _ => Nat.le_of_ble_eq_true rfl) ?_
  have hgg := hg
  obtain ⟨hm, hm6, ht, ht2, hgq⟩ := hgg
  have hk : MK 0 (U.1 1) U U := MK.rf
  refine aw_iload_n (pc' := 1) eX7_told_0 rfl rfl ?_
  refine aw_tsw (v := 0) (tgt := 44) eX7_told_1 (by decide) (by decide) rfl (by decide) (fun c_1 => ?_) (fun n_1_0 => ?_)
  · refine aw_aload_n (pc' := 45) eX7_told_44 rfl rfl trivial ?_
    refine aw_Mref (pc' := 48) (kf := 0) 1 hM eX7_told_45 rfl (by decide) rfl q789 ?_
    refine aw_bipush (pc' := 50) (v := 67) eX7_told_48 rfl (by decide) ?_
    refine aw_MaldC (pc' := 51) 1 67 hM eX7_told_50 rfl (by decide) (by unfold vp_in; decide) (by decide) ?_
    refine aw_ret (v := some (.int _)) eX7_told_51 ⟨rfl, rfl⟩ (by omega) (by omega) rfl ?_
    exact ⟨by simp [sTold, c_1], _, hM, hk, Same.rf⟩
  refine aw_tsw (v := 1) (tgt := 52) eX7_told_1 (by decide) (by decide) rfl (by decide) (fun c_1 => ?_) (fun n_1_1 => ?_)
  · refine aw_aload_n (pc' := 53) eX7_told_52 rfl rfl trivial ?_
    refine aw_callv (pc' := 56) (nn := 0) (c_X7_roomNow (d := d - 1) hk hM hz hg (by omega)) eX7_told_53 rfl ⟨q982, q985, q62⟩ q984 q42 ⟨rfl, by decide +kernel, by decide +kernel, by decide +kernel⟩ rfl (by rw [hM.2.1]; exact ⟨rfl, rfl⟩) rfl ⟨by omega, by decide⟩ ⟨by omega, by omega⟩ rfl (Nat.le_of_ble_eq_true rfl) (fun v5 h6 hq7 => ?_)
    obtain ⟨rfl, V3, hM1, k4, hs2⟩ := hq7
    dsimp only [Option.toList, List.cons_append, List.nil_append]
    refine aw_ret (v := some (.int _)) eX7_told_56 ⟨rfl, rfl⟩ (by omega) (by omega) rfl ?_
    exact ⟨by simp [sTold, c_1, n_1_0], _, hM1, k4, hs2⟩
  refine aw_tsw (v := 2) (tgt := 57) eX7_told_1 (by decide) (by decide) rfl (by decide) (fun c_1 => ?_) (fun n_1_2 => ?_)
  · refine aw_aload_n (pc' := 58) eX7_told_57 rfl rfl trivial ?_
    refine aw_Mref (pc' := 61) (kf := 0) 1 hM eX7_told_58 rfl (by decide) rfl q789 ?_
    refine aw_bipush (pc' := 63) (v := 61) eX7_told_61 rfl (by decide) ?_
    refine aw_MaldC (pc' := 64) 1 61 hM eX7_told_63 rfl (by decide) (by unfold vp_in; decide) (by decide) ?_
    refine aw_ret (v := some (.int _)) eX7_told_64 ⟨rfl, rfl⟩ (by omega) (by omega) rfl ?_
    exact ⟨by simp [sTold, c_1, n_1_0, n_1_1], _, hM, hk, Same.rf⟩
  refine aw_tsw (v := 3) (tgt := 65) eX7_told_1 (by decide) (by decide) rfl (by decide) (fun c_1 => ?_) (fun n_1_3 => ?_)
  · refine aw_aload_n (pc' := 66) eX7_told_65 rfl rfl trivial ?_
    refine aw_Mref (pc' := 69) (kf := 0) 1 hM eX7_told_66 rfl (by decide) rfl q789 ?_
    refine aw_bipush (pc' := 71) (v := 62) eX7_told_69 rfl (by decide) ?_
    refine aw_MaldC (pc' := 72) 1 62 hM eX7_told_71 rfl (by decide) (by unfold vp_in; decide) (by decide) ?_
    refine aw_ret (v := some (.int _)) eX7_told_72 ⟨rfl, rfl⟩ (by omega) (by omega) rfl ?_
    exact ⟨by simp [sTold, c_1, n_1_0, n_1_1, n_1_2], _, hM, hk, Same.rf⟩
  refine aw_tsw (v := 4) (tgt := 73) eX7_told_1 (by decide) (by decide) rfl (by decide) (fun c_1 => ?_) (fun n_1_4 => ?_)
  · refine aw_aload_n (pc' := 74) eX7_told_73 rfl rfl trivial ?_
    refine aw_iconst (pc' := 75) (v := 4) eX7_told_74 rfl (by decide) ?_
    refine aw_callv (pc' := 78) (nn := 1) (c_X7_howMany (d := d - 1) hM ⟨hm, hm6⟩ _ (by omega)) eX7_told_75 rfl ⟨q1005, q1008, q62⟩ q1007 q46 ⟨rfl, by decide +kernel, by decide +kernel, by decide +kernel⟩ rfl (by rw [hM.2.1]; exact ⟨rfl, rfl⟩) rfl ⟨by omega, by decide⟩ ⟨by omega, by omega⟩ rfl (Nat.le_of_ble_eq_true rfl) (fun v8 h9 hq10 => ?_)
    obtain ⟨rfl, rfl⟩ := hq10
    dsimp only [Option.toList, List.cons_append, List.nil_append]
    refine aw_ret (v := some (.int _)) eX7_told_78 ⟨rfl, rfl⟩ (by omega) (by omega) rfl ?_
    exact ⟨by simp [sTold, c_1, n_1_0, n_1_1, n_1_2, n_1_3], _, hM, hk, Same.rf⟩
  refine aw_tsw (v := 5) (tgt := 79) eX7_told_1 (by decide) (by decide) rfl (by decide) (fun c_1 => ?_) (fun n_1_5 => ?_)
  · refine aw_aload_n (pc' := 80) eX7_told_79 rfl rfl trivial ?_
    refine aw_iconst (pc' := 81) (v := 1) eX7_told_80 rfl (by decide) ?_
    refine aw_callv (pc' := 84) (nn := 1) (c_X7_which (d := d - 1) hM ⟨hm, hm6⟩ _ (by omega)) eX7_told_81 rfl ⟨q1040, q1043, q62⟩ q1042 q47 ⟨rfl, by decide +kernel, by decide +kernel, by decide +kernel⟩ rfl (by rw [hM.2.1]; exact ⟨rfl, rfl⟩) rfl ⟨by omega, by decide⟩ ⟨by omega, by omega⟩ rfl (Nat.le_of_ble_eq_true rfl) (fun v11 h12 hq13 => ?_)
    obtain ⟨rfl, rfl⟩ := hq13
    dsimp only [Option.toList, List.cons_append, List.nil_append]
    refine aw_ret (v := some (.int _)) eX7_told_84 ⟨rfl, rfl⟩ (by omega) (by omega) rfl ?_
    exact ⟨by simp [sTold, c_1, n_1_0, n_1_1, n_1_2, n_1_3, n_1_4], _, hM, hk, Same.rf⟩
  refine aw_tsw (v := 6) (tgt := 85) eX7_told_1 (by decide) (by decide) rfl (by decide) (fun c_1 => ?_) (fun n_1_6 => ?_)
  · refine aw_aload_n (pc' := 86) eX7_told_85 rfl rfl trivial ?_
    refine aw_callv (pc' := 89) (nn := 0) (c_X7_loads (d := d - 1) hk hM hz hg (by omega)) eX7_told_86 rfl ⟨q978, q981, q62⟩ q980 q41 ⟨rfl, by decide +kernel, by decide +kernel, by decide +kernel⟩ rfl (by rw [hM.2.1]; exact ⟨rfl, rfl⟩) rfl ⟨by omega, by decide⟩ ⟨by omega, by omega⟩ rfl (Nat.le_of_ble_eq_true rfl) (fun v18 h19 hq20 => ?_)
    obtain ⟨rfl, V16, hM14, k17, hs15⟩ := hq20
    dsimp only [Option.toList, List.cons_append, List.nil_append]
    refine aw_ret (v := some (.int _)) eX7_told_89 ⟨rfl, rfl⟩ (by omega) (by omega) rfl ?_
    exact ⟨by simp [sTold, c_1, n_1_0, n_1_1, n_1_2, n_1_3, n_1_4, n_1_5], _, hM14, k17, hs15⟩
  refine aw_tswo (tgt := 90) eX7_told_1 (by have g0 := zne n_1_0 (show ((0 : Int32)).toInt = 0 by decide); have g1 := zne n_1_1 (show ((1 : Int32)).toInt = 1 by decide); have g2 := zne n_1_2 (show ((2 : Int32)).toInt = 2 by decide); have g3 := zne n_1_3 (show ((3 : Int32)).toInt = 3 by decide); have g4 := zne n_1_4 (show ((4 : Int32)).toInt = 4 by decide); have g5 := zne n_1_5 (show ((5 : Int32)).toInt = 5 by decide); have g6 := zne n_1_6 (show ((6 : Int32)).toInt = 6 by decide); omega) (by decide) ?_
  refine aw_iload_n (pc' := 91) eX7_told_90 rfl rfl ?_
  refine aw_bipush (pc' := 93) (v := 10) eX7_told_91 rfl (by decide) ?_
  refine aw_bipush (pc' := 95) (v := 13) eX7_told_93 rfl (by decide) ?_
  refine aw_calls (pc' := 98) (nn := 3) (c_X7_isIn (d := d - 1) _ _ _ (by omega)) eX7_told_95 rfl ⟨q890, q892, q62⟩ q891 ⟨by decide +kernel, by decide +kernel, by decide +kernel⟩ rfl ⟨by omega, by decide⟩ ⟨by omega, by omega⟩ rfl (Nat.le_of_ble_eq_true rfl) (fun v21 h22 hq23 => ?_)
  obtain ⟨rfl, rfl⟩ := hq23
  dsimp only [Option.toList, List.cons_append, List.nil_append]
  refine aw_if_eq (pc' := 101) (tgt := 116) eX7_told_98 rfl (by decide) (fun c_98 => ?_) (fun c_98 => ?_)
  · refine aw_sipush (pc' := 119) (v := -10001) eX7_told_116 rfl (by decide) ?_
    refine aw_ret (v := some (.int _)) eX7_told_119 ⟨rfl, rfl⟩ (by omega) (by omega) rfl ?_
    simp only [zb_eq0, Bool.not_eq_false, Bool.not_eq_true, decide_eq_true_eq, decide_eq_false_iff_not, Decidable.not_not] at c_98
    exact ⟨by simp [sTold, n_1_0, n_1_1, n_1_2, n_1_3, n_1_4, n_1_5, n_1_6, c_98], _, hM, hk, Same.rf⟩
  · have c98 := c_98
    simp only [zb_eq0, Bool.not_eq_false, Bool.not_eq_true, decide_eq_true_eq, decide_eq_false_iff_not, Decidable.not_not] at c98
    obtain ⟨w2, h10, hw2, rfl⟩ : ∃ w2 : Nat, 10 ≤ w2 ∧ w2 ≤ 13 ∧ w = nI w2 := by
      rw [bIn_toInt, show (10 : Int32).toInt = 10 from by decide, show (13 : Int32).toInt = 13 from by decide] at c98
      exact ⟨w.toInt.toNat, by omega, by omega, Int32.toInt_inj.mp (by rw [nI_toInt (by omega)]; omega)⟩
    have clw : (nI w2).toNatClampNeg = w2 := nI_clamp (by omega)
    have ew : (63 + nI w2 - 10 : Int32) = nI (53 + w2) := by
      rw [show (63 : Int32) + nI w2 = nI (53 + w2 + 10) from (nI_add 63 w2).trans (by congr 1; omega)]
      exact nI_subn
    refine aw_aload_n (pc' := 102) eX7_told_101 rfl rfl trivial ?_
    refine aw_Mref (pc' := 105) (kf := 0) 1 hM eX7_told_102 rfl (by decide) rfl q789 ?_
    refine aw_bipush (pc' := 107) (v := 63) eX7_told_105 rfl (by decide) ?_
    refine aw_iload_n (pc' := 108) eX7_told_107 rfl rfl ?_
    refine aw_iadd (pc' := 109) eX7_told_108 rfl ?_
    refine aw_bipush (pc' := 111) (v := 10) eX7_told_109 rfl (by decide) ?_
    refine aw_isub (pc' := 112) eX7_told_111 rfl ?_
    rw [ew]
    refine aw_MaldC (pc' := 113) 1 (53 + w2) hM eX7_told_112 rfl (by decide) (show vp_in _ 123 from vp_in_nI (by omega) (by omega)) (nI_clamp (by omega)) ?_
    refine aw_goto eX7_told_113 (by decide) (tgt := 119) ?_
    refine aw_ret (v := some (.int _)) eX7_told_119 ⟨rfl, rfl⟩ (by omega) (by omega) rfl ?_
    simp only [zb_eq0, Bool.not_eq_false, Bool.not_eq_true, decide_eq_true_eq, decide_eq_false_iff_not, Decidable.not_not] at c_98
    exact ⟨by simp [sTold, n_1_0, n_1_1, n_1_2, n_1_3, n_1_4, n_1_5, n_1_6, c_98, clw], _, hM, hk, Same.rf⟩
def sPass (F : FT) (g : Nat → Int32) (m t : Nat) (n : Int32) : Int32 × (Nat → Int32) := if bIn n 0 60 = true then if 9999 < nI t + n then (-3, g) else (nI (t + n.toNatClampNeg), sDys F m n.toNatClampNeg t g) else (-2, g)
abbrev mX7_pass : MT := (RX7, cX7_pass, 2, (some .int), false)
theorem eX7_pass_0 : decode mX7_pass.2.1 0 = .ok (.iload_n 1, 1) := by decide +kernel
theorem eX7_pass_1 : decode mX7_pass.2.1 1 = .ok (.iconst 0, 1) := by decide +kernel
theorem eX7_pass_2 : decode mX7_pass.2.1 2 = .ok (.bipush 60, 2) := by decide +kernel
theorem eX7_pass_4 : decode mX7_pass.2.1 4 = .ok (.invokestatic 80, 3) := by decide +kernel
theorem eX7_pass_7 : decode mX7_pass.2.1 7 = .ok (.ifCond .ne 6, 3) := by decide +kernel
theorem eX7_pass_10 : decode mX7_pass.2.1 10 = .ok (.bipush (-2), 2) := by decide +kernel
theorem eX7_pass_12 : decode mX7_pass.2.1 12 = .ok (.ireturn, 1) := by decide +kernel
theorem eX7_pass_13 : decode mX7_pass.2.1 13 = .ok (.aload_n 0, 1) := by decide +kernel
theorem eX7_pass_14 : decode mX7_pass.2.1 14 = .ok (.getfield 15, 3) := by decide +kernel
theorem eX7_pass_17 : decode mX7_pass.2.1 17 = .ok (.bipush 67, 2) := by decide +kernel
theorem eX7_pass_19 : decode mX7_pass.2.1 19 = .ok (.iaload, 1) := by decide +kernel
theorem eX7_pass_20 : decode mX7_pass.2.1 20 = .ok (.iload_n 1, 1) := by decide +kernel
theorem eX7_pass_21 : decode mX7_pass.2.1 21 = .ok (.iadd, 1) := by decide +kernel
theorem eX7_pass_22 : decode mX7_pass.2.1 22 = .ok (.sipush 9999, 3) := by decide +kernel
theorem eX7_pass_25 : decode mX7_pass.2.1 25 = .ok (.if_icmp .le 6, 3) := by decide +kernel
theorem eX7_pass_28 : decode mX7_pass.2.1 28 = .ok (.bipush (-3), 2) := by decide +kernel
theorem eX7_pass_30 : decode mX7_pass.2.1 30 = .ok (.ireturn, 1) := by decide +kernel
theorem eX7_pass_31 : decode mX7_pass.2.1 31 = .ok (.aload_n 0, 1) := by decide +kernel
theorem eX7_pass_32 : decode mX7_pass.2.1 32 = .ok (.iload_n 1, 1) := by decide +kernel
theorem eX7_pass_33 : decode mX7_pass.2.1 33 = .ok (.invokevirtual 209, 3) := by decide +kernel
theorem eX7_pass_36 : decode mX7_pass.2.1 36 = .ok (.aload_n 0, 1) := by decide +kernel
theorem eX7_pass_37 : decode mX7_pass.2.1 37 = .ok (.getfield 15, 3) := by decide +kernel
theorem eX7_pass_40 : decode mX7_pass.2.1 40 = .ok (.bipush 67, 2) := by decide +kernel
theorem eX7_pass_42 : decode mX7_pass.2.1 42 = .ok (.iaload, 1) := by decide +kernel
theorem eX7_pass_43 : decode mX7_pass.2.1 43 = .ok (.ireturn, 1) := by decide +kernel
theorem c_X7_pass (hM : MAt h u U) (hz : mZ U) (hg : gOk (U.1 1) m t) (ht6 : t ≤ 1000000) (w : Int32) (hd : 26 ≤ d) : Ct l G mX7_pass yX7_pass d 0 0 [.ref u, .int w] h (fun r h' => r = some (.int (sPass (mRd U) (U.1 1) m t w).1) ∧ ∃ U', MAt h' u U' ∧ MK 0 (sPass (mRd U) (U.1 1) m t w).2 U U' ∧ Same u 19 h h') := by
  refine ct_of (lv := [some (.ref u), some (.int w)]) (by decide +kernel) rfl (fun z => by cases z) (fun _ => rfl) (fun _ => Nat.le_of_ble_eq_true rfl) ?_
  have hgg := hg
  obtain ⟨hm, hm6, ht, ht2, hgq⟩ := hgg
  have hk : MK 0 (U.1 1) U U := MK.rf
  refine aw_iload_n (pc' := 1) eX7_pass_0 rfl rfl ?_
  refine aw_iconst (pc' := 2) (v := 0) eX7_pass_1 rfl (by decide) ?_
  refine aw_bipush (pc' := 4) (v := 60) eX7_pass_2 rfl (by decide) ?_
  refine aw_calls (pc' := 7) (nn := 3) (c_X7_isIn (d := d - 1) _ _ _ (by omega)) eX7_pass_4 rfl ⟨q890, q892, q62⟩ q891 ⟨by decide +kernel, by decide +kernel, by decide +kernel⟩ rfl ⟨by omega, by decide⟩ ⟨by omega, by omega⟩ rfl (Nat.le_of_ble_eq_true rfl) (fun v1 h2 hq3 => ?_)
  obtain ⟨rfl, rfl⟩ := hq3
  dsimp only [Option.toList, List.cons_append, List.nil_append]
  refine aw_if_ne (pc' := 10) (tgt := 13) eX7_pass_7 rfl (by decide) (fun c_7 => ?_) (fun c_7 => ?_)
  · simp only [zb_eq0, Bool.not_eq_false, Bool.not_eq_true, decide_eq_true_eq, decide_eq_false_iff_not, Decidable.not_not] at c_7
    have c7 := c_7
    obtain ⟨w2, hw2, rfl⟩ := (bIn_lit (N := 60) (by omega)).mp c7
    have clw : (nI w2).toNatClampNeg = w2 := nI_clamp (by omega)
    refine aw_aload_n (pc' := 14) eX7_pass_13 rfl rfl trivial ?_
    refine aw_Mref (pc' := 17) (kf := 0) 1 hM eX7_pass_14 rfl (by decide) rfl q789 ?_
    refine aw_bipush (pc' := 19) (v := 67) eX7_pass_17 rfl (by decide) ?_
    refine aw_MaldC (pc' := 20) 1 67 hM eX7_pass_19 rfl (by decide) (by unfold vp_in; decide) (by decide) ?_
    refine aw_iload_n (pc' := 21) eX7_pass_20 rfl rfl ?_
    refine aw_iadd (pc' := 22) eX7_pass_21 rfl ?_
    refine aw_sipush (pc' := 25) (v := 9999) eX7_pass_22 rfl (by decide) ?_
    refine aw_icmp_le (pc' := 28) (tgt := 31) eX7_pass_25 rfl (by decide) (fun c_25 => ?_) (fun c_25 => ?_)
    · refine aw_aload_n (pc' := 32) eX7_pass_31 rfl rfl trivial ?_
      refine aw_iload_n (pc' := 33) eX7_pass_32 rfl rfl ?_
      refine aw_callv (pc' := 36) (nn := 1) (c_X7_days (d := d - 1) hk hM hz hg (x := w2) (by omega) (by omega) (by omega)) eX7_pass_33 rfl ⟨q1048, q1051, q62⟩ q1050 q48 ⟨rfl, by decide +kernel, by decide +kernel, by decide +kernel⟩ rfl (by rw [hM.2.1]; exact ⟨rfl, rfl⟩) rfl ⟨by omega, by decide⟩ ⟨by omega, by omega⟩ rfl (Nat.le_of_ble_eq_true rfl) (fun v8 h9 hq10 => ?_)
      obtain ⟨rfl, V6, hM4, k7, hs5⟩ := hq10
      dsimp only [Option.toList, List.cons_append, List.nil_append]
      refine aw_aload_n (pc' := 37) eX7_pass_36 rfl rfl trivial ?_
      refine aw_Mref (pc' := 40) (kf := 0) 1 hM4 eX7_pass_37 rfl (by decide) rfl q789 ?_
      refine aw_bipush (pc' := 42) (v := 67) eX7_pass_40 rfl (by decide) ?_
      refine aw_MaldC (pc' := 43) 1 67 hM4 eX7_pass_42 rfl (by decide) (by unfold vp_in; decide) (by decide) ?_
      refine aw_ret (v := some (.int _)) eX7_pass_43 ⟨rfl, rfl⟩ (by omega) (by omega) rfl ?_
      rw [ht] at c_25
      have c25 : ¬ (9999 : Int32) < nI t + nI w2 := by first | exact c_25 | exact Int32.not_lt.mpr c_25
      have e67 : V6.1 1 67 = nI (t + w2) := by rw [k7.1]; exact (sDys_ok _ _ _ hg (by omega)).2.2.1
      exact ⟨by rw [sPass, if_pos c_7, if_neg c25, clw, ← e67], _, hM4, by rw [sPass, if_pos c_7, if_neg c25, clw]; exact k7, hs5⟩
    · refine aw_bipush (pc' := 30) (v := -3) eX7_pass_28 rfl (by decide) ?_
      refine aw_ret (v := some (.int _)) eX7_pass_30 ⟨rfl, rfl⟩ (by omega) (by omega) rfl ?_
      rw [ht] at c_25
      exact ⟨by rw [sPass, if_pos c_7, if_pos (by first | exact c_25 | exact Int32.not_le.mp c_25)], _, hM, by rw [sPass, if_pos c_7, if_pos (by first | exact c_25 | exact Int32.not_le.mp c_25)]; exact hk, Same.rf⟩
  · refine aw_bipush (pc' := 12) (v := -2) eX7_pass_10 rfl (by decide) ?_
    refine aw_ret (v := some (.int _)) eX7_pass_12 ⟨rfl, rfl⟩ (by omega) (by omega) rfl ?_
    simp only [zb_eq0, Bool.not_eq_false, Bool.not_eq_true, decide_eq_true_eq, decide_eq_false_iff_not, Decidable.not_not] at c_7
    exact ⟨by simp [sPass, c_7], _, hM, by rw [sPass, if_neg (by rw [c_7]; decide)]; exact hk, Same.rf⟩
end M18
end
