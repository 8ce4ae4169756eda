section
-- ===== PART A: goes FIRST, ahead of the names: the tables' words, and 'selects' of the private methods out of them =====
/-- a private method of a class that the tables say can be made, by its rows of tables_1 -/
def lw_okq (q : MethodName × Nat) : Prop := (q.1.cls ≠ "java/lang/invoke/MethodHandle" ∧ q.1.cls ≠ "java/lang/invoke/VarHandle") ∧ Cond.instantiable q.1.cls q.2 ∈ tables_1 ∧ Cond.privateMethod q.1 ∈ tables_1 ∧ Cond.instanceMethod q.1 ∈ tables_1
theorem lw_p0 : lw_okq (⟨"AmberGrains$World", "fillLetters", "(I)V"⟩, 15) := ⟨⟨by decide +kernel, by decide +kernel⟩, List.mem_of_getElem? (i := 27) (by decide +kernel), List.mem_of_getElem? (i := 260) (by decide +kernel), List.mem_of_getElem? (i := 261) (by decide +kernel)⟩
theorem lw_p1 : lw_okq (⟨"AmberGrains$World", "twinsShare", "(I)I"⟩, 15) := ⟨⟨by decide +kernel, by decide +kernel⟩, List.mem_of_getElem? (i := 27) (by decide +kernel), List.mem_of_getElem? (i := 268) (by decide +kernel), List.mem_of_getElem? (i := 269) (by decide +kernel)⟩
theorem lw_p2 : lw_okq (⟨"AmberGrains", "blowOf", "(I)I"⟩, 14) := ⟨⟨by decide +kernel, by decide +kernel⟩, List.mem_of_getElem? (i := 19) (by decide +kernel), List.mem_of_getElem? (i := 275) (by decide +kernel), List.mem_of_getElem? (i := 276) (by decide +kernel)⟩
theorem lw_p3 : lw_okq (⟨"AmberGrains", "trialComes", "(II)I"⟩, 14) := ⟨⟨by decide +kernel, by decide +kernel⟩, List.mem_of_getElem? (i := 19) (by decide +kernel), List.mem_of_getElem? (i := 289) (by decide +kernel), List.mem_of_getElem? (i := 290) (by decide +kernel)⟩
theorem lw_p4 : lw_okq (⟨"AmberGrains$World", "bringUp", "()V"⟩, 15) := ⟨⟨by decide +kernel, by decide +kernel⟩, List.mem_of_getElem? (i := 27) (by decide +kernel), List.mem_of_getElem? (i := 297) (by decide +kernel), List.mem_of_getElem? (i := 298) (by decide +kernel)⟩
theorem lw_p5 : lw_okq (⟨"AmberGrains$World", "drift", "()V"⟩, 15) := ⟨⟨by decide +kernel, by decide +kernel⟩, List.mem_of_getElem? (i := 27) (by decide +kernel), List.mem_of_getElem? (i := 306) (by decide +kernel), List.mem_of_getElem? (i := 307) (by decide +kernel)⟩
theorem lw_p6 : lw_okq (⟨"AmberGrains", "newsOf", "(I)I"⟩, 14) := ⟨⟨by decide +kernel, by decide +kernel⟩, List.mem_of_getElem? (i := 19) (by decide +kernel), List.mem_of_getElem? (i := 310) (by decide +kernel), List.mem_of_getElem? (i := 311) (by decide +kernel)⟩
theorem lw_p7 : lw_okq (⟨"AmberGrains$Reader", "clause", "()V"⟩, 7) := ⟨⟨by decide +kernel, by decide +kernel⟩, List.mem_of_getElem? (i := 123) (by decide +kernel), List.mem_of_getElem? (i := 367) (by decide +kernel), List.mem_of_getElem? (i := 368) (by decide +kernel)⟩
theorem lw_p8 : lw_okq (⟨"AmberGrains$Reader", "sign", "()I"⟩, 7) := ⟨⟨by decide +kernel, by decide +kernel⟩, List.mem_of_getElem? (i := 123) (by decide +kernel), List.mem_of_getElem? (i := 371) (by decide +kernel), List.mem_of_getElem? (i := 372) (by decide +kernel)⟩
theorem lw_p9 : lw_okq (⟨"AmberGrains$Reader", "letters", "(Ljava/lang/String;)V"⟩, 7) := ⟨⟨by decide +kernel, by decide +kernel⟩, List.mem_of_getElem? (i := 123) (by decide +kernel), List.mem_of_getElem? (i := 376) (by decide +kernel), List.mem_of_getElem? (i := 377) (by decide +kernel)⟩
theorem lw_p10 : lw_okq (⟨"AmberGrains$Reader", "number", "()I"⟩, 7) := ⟨⟨by decide +kernel, by decide +kernel⟩, List.mem_of_getElem? (i := 123) (by decide +kernel), List.mem_of_getElem? (i := 419) (by decide +kernel), List.mem_of_getElem? (i := 420) (by decide +kernel)⟩
theorem lw_p11 : lw_okq (⟨"AmberGrains$Reader", "either", "(I)V"⟩, 7) := ⟨⟨by decide +kernel, by decide +kernel⟩, List.mem_of_getElem? (i := 123) (by decide +kernel), List.mem_of_getElem? (i := 426) (by decide +kernel), List.mem_of_getElem? (i := 427) (by decide +kernel)⟩
theorem lw_p12 : lw_okq (⟨"AmberGrains$Reader", "single", "(I)V"⟩, 7) := ⟨⟨by decide +kernel, by decide +kernel⟩, List.mem_of_getElem? (i := 123) (by decide +kernel), List.mem_of_getElem? (i := 430) (by decide +kernel), List.mem_of_getElem? (i := 431) (by decide +kernel)⟩
theorem lw_p13 : lw_okq (⟨"AmberGrains$Reader", "test", "()V"⟩, 7) := ⟨⟨by decide +kernel, by decide +kernel⟩, List.mem_of_getElem? (i := 123) (by decide +kernel), List.mem_of_getElem? (i := 435) (by decide +kernel), List.mem_of_getElem? (i := 436) (by decide +kernel)⟩
theorem lw_p14 : lw_okq (⟨"AmberGrains$Reader", "step", "(III)V"⟩, 7) := ⟨⟨by decide +kernel, by decide +kernel⟩, List.mem_of_getElem? (i := 123) (by decide +kernel), List.mem_of_getElem? (i := 497) (by decide +kernel), List.mem_of_getElem? (i := 498) (by decide +kernel)⟩
theorem lw_p15 : lw_okq (⟨"AmberGrains", "trialFromFinderAt", "(II)V"⟩, 14) := ⟨⟨by decide +kernel, by decide +kernel⟩, List.mem_of_getElem? (i := 19) (by decide +kernel), List.mem_of_getElem? (i := 564) (by decide +kernel), List.mem_of_getElem? (i := 565) (by decide +kernel)⟩
def lw_privs_1 : List (MethodName × Nat) := [(⟨"AmberGrains$World", "fillLetters", "(I)V"⟩, 15), (⟨"AmberGrains$World", "twinsShare", "(I)I"⟩, 15), (⟨"AmberGrains", "blowOf", "(I)I"⟩, 14), (⟨"AmberGrains", "trialComes", "(II)I"⟩, 14), (⟨"AmberGrains$World", "bringUp", "()V"⟩, 15), (⟨"AmberGrains$World", "drift", "()V"⟩, 15), (⟨"AmberGrains", "newsOf", "(I)I"⟩, 14), (⟨"AmberGrains$Reader", "clause", "()V"⟩, 7), (⟨"AmberGrains$Reader", "sign", "()I"⟩, 7), (⟨"AmberGrains$Reader", "letters", "(Ljava/lang/String;)V"⟩, 7), (⟨"AmberGrains$Reader", "number", "()I"⟩, 7), (⟨"AmberGrains$Reader", "either", "(I)V"⟩, 7), (⟨"AmberGrains$Reader", "single", "(I)V"⟩, 7), (⟨"AmberGrains$Reader", "test", "()V"⟩, 7), (⟨"AmberGrains$Reader", "step", "(III)V"⟩, 7), (⟨"AmberGrains", "trialFromFinderAt", "(II)V"⟩, 14)]
theorem lw_r1 : ∀ q ∈ lw_privs_1, lw_okq q := List.forall_mem_cons.mpr ⟨lw_p0, List.forall_mem_cons.mpr ⟨lw_p1, List.forall_mem_cons.mpr ⟨lw_p2, List.forall_mem_cons.mpr ⟨lw_p3, List.forall_mem_cons.mpr ⟨lw_p4, List.forall_mem_cons.mpr ⟨lw_p5, List.forall_mem_cons.mpr ⟨lw_p6, List.forall_mem_cons.mpr ⟨lw_p7, List.forall_mem_cons.mpr ⟨lw_p8, List.forall_mem_cons.mpr ⟨lw_p9, List.forall_mem_cons.mpr ⟨lw_p10, List.forall_mem_cons.mpr ⟨lw_p11, List.forall_mem_cons.mpr ⟨lw_p12, List.forall_mem_cons.mpr ⟨lw_p13, List.forall_mem_cons.mpr ⟨lw_p14, List.forall_mem_cons.mpr ⟨lw_p15, fun _ h => absurd h List.not_mem_nil⟩⟩⟩⟩⟩⟩⟩⟩⟩⟩⟩⟩⟩⟩⟩⟩
theorem lw_p16 : lw_okq (⟨"AmberGrains", "trialIsAsSeen", "()Z"⟩, 14) := ⟨⟨by decide +kernel, by decide +kernel⟩, List.mem_of_getElem? (i := 19) (by decide +kernel), List.mem_of_getElem? (i := 584) (by decide +kernel), List.mem_of_getElem? (i := 585) (by decide +kernel)⟩
theorem lw_p17 : lw_okq (⟨"AmberGrains", "trialIsAsSeenOn", "(I)Z"⟩, 14) := ⟨⟨by decide +kernel, by decide +kernel⟩, List.mem_of_getElem? (i := 19) (by decide +kernel), List.mem_of_getElem? (i := 593) (by decide +kernel), List.mem_of_getElem? (i := 594) (by decide +kernel)⟩
theorem lw_p18 : lw_okq (⟨"AmberGrains", "trialDoes", "(II)V"⟩, 14) := ⟨⟨by decide +kernel, by decide +kernel⟩, List.mem_of_getElem? (i := 19) (by decide +kernel), List.mem_of_getElem? (i := 621) (by decide +kernel), List.mem_of_getElem? (i := 622) (by decide +kernel)⟩
theorem lw_p19 : lw_okq (⟨"AmberGrains$Voice", "from", "(IIII)I"⟩, 5) := ⟨⟨by decide +kernel, by decide +kernel⟩, List.mem_of_getElem? (i := 154) (by decide +kernel), List.mem_of_getElem? (i := 670) (by decide +kernel), List.mem_of_getElem? (i := 671) (by decide +kernel)⟩
theorem lw_p20 : lw_okq (⟨"AmberGrains$Voice", "body", "(III)I"⟩, 5) := ⟨⟨by decide +kernel, by decide +kernel⟩, List.mem_of_getElem? (i := 154) (by decide +kernel), List.mem_of_getElem? (i := 676) (by decide +kernel), List.mem_of_getElem? (i := 677) (by decide +kernel)⟩
theorem lw_p21 : lw_okq (⟨"AmberGrainsModel", "isOne", "(I)Z"⟩, 28) := ⟨⟨by decide +kernel, by decide +kernel⟩, List.mem_of_getElem? (i := 727) (by decide +kernel), List.mem_of_getElem? (i := 844) (by decide +kernel), List.mem_of_getElem? (i := 845) (by decide +kernel)⟩
theorem lw_p22 : lw_okq (⟨"AmberGrainsModel", "one", "(II)I"⟩, 28) := ⟨⟨by decide +kernel, by decide +kernel⟩, List.mem_of_getElem? (i := 727) (by decide +kernel), List.mem_of_getElem? (i := 848) (by decide +kernel), List.mem_of_getElem? (i := 849) (by decide +kernel)⟩
theorem lw_p23 : lw_okq (⟨"AmberGrainsModel", "load", "(I)I"⟩, 28) := ⟨⟨by decide +kernel, by decide +kernel⟩, List.mem_of_getElem? (i := 727) (by decide +kernel), List.mem_of_getElem? (i := 852) (by decide +kernel), List.mem_of_getElem? (i := 853) (by decide +kernel)⟩
theorem lw_p24 : lw_okq (⟨"AmberGrainsModel", "readFor", "(I)V"⟩, 28) := ⟨⟨by decide +kernel, by decide +kernel⟩, List.mem_of_getElem? (i := 727) (by decide +kernel), List.mem_of_getElem? (i := 856) (by decide +kernel), List.mem_of_getElem? (i := 857) (by decide +kernel)⟩
theorem lw_p25 : lw_okq (⟨"AmberGrainsModel", "readAll", "()Z"⟩, 28) := ⟨⟨by decide +kernel, by decide +kernel⟩, List.mem_of_getElem? (i := 727) (by decide +kernel), List.mem_of_getElem? (i := 860) (by decide +kernel), List.mem_of_getElem? (i := 861) (by decide +kernel)⟩
theorem lw_p26 : lw_okq (⟨"AmberGrainsModel", "clause", "()V"⟩, 28) := ⟨⟨by decide +kernel, by decide +kernel⟩, List.mem_of_getElem? (i := 727) (by decide +kernel), List.mem_of_getElem? (i := 864) (by decide +kernel), List.mem_of_getElem? (i := 865) (by decide +kernel)⟩
theorem lw_p27 : lw_okq (⟨"AmberGrainsModel", "isAt", "(I)Z"⟩, 28) := ⟨⟨by decide +kernel, by decide +kernel⟩, List.mem_of_getElem? (i := 727) (by decide +kernel), List.mem_of_getElem? (i := 868) (by decide +kernel), List.mem_of_getElem? (i := 869) (by decide +kernel)⟩
theorem lw_p28 : lw_okq (⟨"AmberGrainsModel", "takes", "(I)V"⟩, 28) := ⟨⟨by decide +kernel, by decide +kernel⟩, List.mem_of_getElem? (i := 727) (by decide +kernel), List.mem_of_getElem? (i := 872) (by decide +kernel), List.mem_of_getElem? (i := 873) (by decide +kernel)⟩
theorem lw_p29 : lw_okq (⟨"AmberGrainsModel", "number", "()I"⟩, 28) := ⟨⟨by decide +kernel, by decide +kernel⟩, List.mem_of_getElem? (i := 727) (by decide +kernel), List.mem_of_getElem? (i := 876) (by decide +kernel), List.mem_of_getElem? (i := 877) (by decide +kernel)⟩
theorem lw_p30 : lw_okq (⟨"AmberGrainsModel", "isDigit", "()Z"⟩, 28) := ⟨⟨by decide +kernel, by decide +kernel⟩, List.mem_of_getElem? (i := 727) (by decide +kernel), List.mem_of_getElem? (i := 880) (by decide +kernel), List.mem_of_getElem? (i := 881) (by decide +kernel)⟩
theorem lw_p31 : lw_okq (⟨"AmberGrainsModel", "any", "()Z"⟩, 28) := ⟨⟨by decide +kernel, by decide +kernel⟩, List.mem_of_getElem? (i := 727) (by decide +kernel), List.mem_of_getElem? (i := 884) (by decide +kernel), List.mem_of_getElem? (i := 885) (by decide +kernel)⟩
def lw_privs_2 : List (MethodName × Nat) := [(⟨"AmberGrains", "trialIsAsSeen", "()Z"⟩, 14), (⟨"AmberGrains", "trialIsAsSeenOn", "(I)Z"⟩, 14), (⟨"AmberGrains", "trialDoes", "(II)V"⟩, 14), (⟨"AmberGrains$Voice", "from", "(IIII)I"⟩, 5), (⟨"AmberGrains$Voice", "body", "(III)I"⟩, 5), (⟨"AmberGrainsModel", "isOne", "(I)Z"⟩, 28), (⟨"AmberGrainsModel", "one", "(II)I"⟩, 28), (⟨"AmberGrainsModel", "load", "(I)I"⟩, 28), (⟨"AmberGrainsModel", "readFor", "(I)V"⟩, 28), (⟨"AmberGrainsModel", "readAll", "()Z"⟩, 28), (⟨"AmberGrainsModel", "clause", "()V"⟩, 28), (⟨"AmberGrainsModel", "isAt", "(I)Z"⟩, 28), (⟨"AmberGrainsModel", "takes", "(I)V"⟩, 28), (⟨"AmberGrainsModel", "number", "()I"⟩, 28), (⟨"AmberGrainsModel", "isDigit", "()Z"⟩, 28), (⟨"AmberGrainsModel", "any", "()Z"⟩, 28)]
theorem lw_r2 : ∀ q ∈ lw_privs_2, lw_okq q := List.forall_mem_cons.mpr ⟨lw_p16, List.forall_mem_cons.mpr ⟨lw_p17, List.forall_mem_cons.mpr ⟨lw_p18, List.forall_mem_cons.mpr ⟨lw_p19, List.forall_mem_cons.mpr ⟨lw_p20, List.forall_mem_cons.mpr ⟨lw_p21, List.forall_mem_cons.mpr ⟨lw_p22, List.forall_mem_cons.mpr ⟨lw_p23, List.forall_mem_cons.mpr ⟨lw_p24, List.forall_mem_cons.mpr ⟨lw_p25, List.forall_mem_cons.mpr ⟨lw_p26, List.forall_mem_cons.mpr ⟨lw_p27, List.forall_mem_cons.mpr ⟨lw_p28, List.forall_mem_cons.mpr ⟨lw_p29, List.forall_mem_cons.mpr ⟨lw_p30, List.forall_mem_cons.mpr ⟨lw_p31, fun _ h => absurd h List.not_mem_nil⟩⟩⟩⟩⟩⟩⟩⟩⟩⟩⟩⟩⟩⟩⟩⟩
theorem lw_p32 : lw_okq (⟨"AmberGrainsModel", "both", "()Z"⟩, 28) := ⟨⟨by decide +kernel, by decide +kernel⟩, List.mem_of_getElem? (i := 727) (by decide +kernel), List.mem_of_getElem? (i := 888) (by decide +kernel), List.mem_of_getElem? (i := 889) (by decide +kernel)⟩
theorem lw_p33 : lw_okq (⟨"AmberGrainsModel", "factor", "()Z"⟩, 28) := ⟨⟨by decide +kernel, by decide +kernel⟩, List.mem_of_getElem? (i := 727) (by decide +kernel), List.mem_of_getElem? (i := 892) (by decide +kernel), List.mem_of_getElem? (i := 893) (by decide +kernel)⟩
theorem lw_p34 : lw_okq (⟨"AmberGrainsModel", "test", "()Z"⟩, 28) := ⟨⟨by decide +kernel, by decide +kernel⟩, List.mem_of_getElem? (i := 727) (by decide +kernel), List.mem_of_getElem? (i := 896) (by decide +kernel), List.mem_of_getElem? (i := 897) (by decide +kernel)⟩
theorem lw_p35 : lw_okq (⟨"AmberGrainsModel", "isAnotherTwin", "(I)Z"⟩, 28) := ⟨⟨by decide +kernel, by decide +kernel⟩, List.mem_of_getElem? (i := 727) (by decide +kernel), List.mem_of_getElem? (i := 900) (by decide +kernel), List.mem_of_getElem? (i := 901) (by decide +kernel)⟩
theorem lw_p36 : lw_okq (⟨"AmberGrainsModel", "isAs", "(II)Z"⟩, 28) := ⟨⟨by decide +kernel, by decide +kernel⟩, List.mem_of_getElem? (i := 727) (by decide +kernel), List.mem_of_getElem? (i := 904) (by decide +kernel), List.mem_of_getElem? (i := 905) (by decide +kernel)⟩
theorem lw_p37 : lw_okq (⟨"AmberGrainsModel", "blow", "(I)I"⟩, 28) := ⟨⟨by decide +kernel, by decide +kernel⟩, List.mem_of_getElem? (i := 727) (by decide +kernel), List.mem_of_getElem? (i := 909) (by decide +kernel), List.mem_of_getElem? (i := 910) (by decide +kernel)⟩
theorem lw_p38 : lw_okq (⟨"AmberGrainsModel", "comes", "(II)I"⟩, 28) := ⟨⟨by decide +kernel, by decide +kernel⟩, List.mem_of_getElem? (i := 727) (by decide +kernel), List.mem_of_getElem? (i := 913) (by decide +kernel), List.mem_of_getElem? (i := 914) (by decide +kernel)⟩
theorem lw_p39 : lw_okq (⟨"AmberGrainsModel", "day", "()V"⟩, 28) := ⟨⟨by decide +kernel, by decide +kernel⟩, List.mem_of_getElem? (i := 727) (by decide +kernel), List.mem_of_getElem? (i := 917) (by decide +kernel), List.mem_of_getElem? (i := 918) (by decide +kernel)⟩
theorem lw_p40 : lw_okq (⟨"AmberGrainsModel", "bringUp", "()V"⟩, 28) := ⟨⟨by decide +kernel, by decide +kernel⟩, List.mem_of_getElem? (i := 727) (by decide +kernel), List.mem_of_getElem? (i := 921) (by decide +kernel), List.mem_of_getElem? (i := 922) (by decide +kernel)⟩
theorem lw_p41 : lw_okq (⟨"AmberGrainsModel", "loads", "()I"⟩, 28) := ⟨⟨by decide +kernel, by decide +kernel⟩, List.mem_of_getElem? (i := 727) (by decide +kernel), List.mem_of_getElem? (i := 925) (by decide +kernel), List.mem_of_getElem? (i := 926) (by decide +kernel)⟩
theorem lw_p42 : lw_okq (⟨"AmberGrainsModel", "roomNow", "()I"⟩, 28) := ⟨⟨by decide +kernel, by decide +kernel⟩, List.mem_of_getElem? (i := 727) (by decide +kernel), List.mem_of_getElem? (i := 929) (by decide +kernel), List.mem_of_getElem? (i := 930) (by decide +kernel)⟩
theorem lw_p43 : lw_okq (⟨"AmberGrainsModel", "change", "(III)I"⟩, 28) := ⟨⟨by decide +kernel, by decide +kernel⟩, List.mem_of_getElem? (i := 727) (by decide +kernel), List.mem_of_getElem? (i := 933) (by decide +kernel), List.mem_of_getElem? (i := 934) (by decide +kernel)⟩
theorem lw_p44 : lw_okq (⟨"AmberGrainsModel", "news", "(I)I"⟩, 28) := ⟨⟨by decide +kernel, by decide +kernel⟩, List.mem_of_getElem? (i := 727) (by decide +kernel), List.mem_of_getElem? (i := 940) (by decide +kernel), List.mem_of_getElem? (i := 941) (by decide +kernel)⟩
theorem lw_p45 : lw_okq (⟨"AmberGrainsModel", "says", "(I)V"⟩, 28) := ⟨⟨by decide +kernel, by decide +kernel⟩, List.mem_of_getElem? (i := 727) (by decide +kernel), List.mem_of_getElem? (i := 944) (by decide +kernel), List.mem_of_getElem? (i := 945) (by decide +kernel)⟩
theorem lw_p46 : lw_okq (⟨"AmberGrainsModel", "howMany", "(I)I"⟩, 28) := ⟨⟨by decide +kernel, by decide +kernel⟩, List.mem_of_getElem? (i := 727) (by decide +kernel), List.mem_of_getElem? (i := 952) (by decide +kernel), List.mem_of_getElem? (i := 953) (by decide +kernel)⟩
theorem lw_p47 : lw_okq (⟨"AmberGrainsModel", "which", "(I)I"⟩, 28) := ⟨⟨by decide +kernel, by decide +kernel⟩, List.mem_of_getElem? (i := 727) (by decide +kernel), List.mem_of_getElem? (i := 987) (by decide +kernel), List.mem_of_getElem? (i := 988) (by decide +kernel)⟩
def lw_privs_3 : List (MethodName × Nat) := [(⟨"AmberGrainsModel", "both", "()Z"⟩, 28), (⟨"AmberGrainsModel", "factor", "()Z"⟩, 28), (⟨"AmberGrainsModel", "test", "()Z"⟩, 28), (⟨"AmberGrainsModel", "isAnotherTwin", "(I)Z"⟩, 28), (⟨"AmberGrainsModel", "isAs", "(II)Z"⟩, 28), (⟨"AmberGrainsModel", "blow", "(I)I"⟩, 28), (⟨"AmberGrainsModel", "comes", "(II)I"⟩, 28), (⟨"AmberGrainsModel", "day", "()V"⟩, 28), (⟨"AmberGrainsModel", "bringUp", "()V"⟩, 28), (⟨"AmberGrainsModel", "loads", "()I"⟩, 28), (⟨"AmberGrainsModel", "roomNow", "()I"⟩, 28), (⟨"AmberGrainsModel", "change", "(III)I"⟩, 28), (⟨"AmberGrainsModel", "news", "(I)I"⟩, 28), (⟨"AmberGrainsModel", "says", "(I)V"⟩, 28), (⟨"AmberGrainsModel", "howMany", "(I)I"⟩, 28), (⟨"AmberGrainsModel", "which", "(I)I"⟩, 28)]
theorem lw_r3 : ∀ q ∈ lw_privs_3, lw_okq q := List.forall_mem_cons.mpr ⟨lw_p32, List.forall_mem_cons.mpr ⟨lw_p33, List.forall_mem_cons.mpr ⟨lw_p34, List.forall_mem_cons.mpr ⟨lw_p35, List.forall_mem_cons.mpr ⟨lw_p36, List.forall_mem_cons.mpr ⟨lw_p37, List.forall_mem_cons.mpr ⟨lw_p38, List.forall_mem_cons.mpr ⟨lw_p39, List.forall_mem_cons.mpr ⟨lw_p40, List.forall_mem_cons.mpr ⟨lw_p41, List.forall_mem_cons.mpr ⟨lw_p42, List.forall_mem_cons.mpr ⟨lw_p43, List.forall_mem_cons.mpr ⟨lw_p44, List.forall_mem_cons.mpr ⟨lw_p45, List.forall_mem_cons.mpr ⟨lw_p46, List.forall_mem_cons.mpr ⟨lw_p47, fun _ h => absurd h List.not_mem_nil⟩⟩⟩⟩⟩⟩⟩⟩⟩⟩⟩⟩⟩⟩⟩⟩
theorem lw_p48 : lw_okq (⟨"AmberGrainsModel", "days", "(I)V"⟩, 28) := ⟨⟨by decide +kernel, by decide +kernel⟩, List.mem_of_getElem? (i := 727) (by decide +kernel), List.mem_of_getElem? (i := 995) (by decide +kernel), List.mem_of_getElem? (i := 996) (by decide +kernel)⟩
theorem lw_p49 : lw_okq (⟨"AmberGrainsModel", "fits", "(III)I"⟩, 28) := ⟨⟨by decide +kernel, by decide +kernel⟩, List.mem_of_getElem? (i := 727) (by decide +kernel), List.mem_of_getElem? (i := 1017) (by decide +kernel), List.mem_of_getElem? (i := 1018) (by decide +kernel)⟩
theorem lw_p50 : lw_okq (⟨"AmberGrainsModel", "isAllSeen", "()Z"⟩, 28) := ⟨⟨by decide +kernel, by decide +kernel⟩, List.mem_of_getElem? (i := 727) (by decide +kernel), List.mem_of_getElem? (i := 1021) (by decide +kernel), List.mem_of_getElem? (i := 1022) (by decide +kernel)⟩
theorem lw_p51 : lw_okq (⟨"AmberGrainsModel", "all", "(III)I"⟩, 28) := ⟨⟨by decide +kernel, by decide +kernel⟩, List.mem_of_getElem? (i := 727) (by decide +kernel), List.mem_of_getElem? (i := 1065) (by decide +kernel), List.mem_of_getElem? (i := 1066) (by decide +kernel)⟩
theorem lw_p52 : lw_okq (⟨"AmberGrainsModel", "byKind", "(IIII)I"⟩, 28) := ⟨⟨by decide +kernel, by decide +kernel⟩, List.mem_of_getElem? (i := 727) (by decide +kernel), List.mem_of_getElem? (i := 1069) (by decide +kernel), List.mem_of_getElem? (i := 1070) (by decide +kernel)⟩
theorem lw_p53 : lw_okq (⟨"AmberGrainsModel", "body", "(I)I"⟩, 28) := ⟨⟨by decide +kernel, by decide +kernel⟩, List.mem_of_getElem? (i := 727) (by decide +kernel), List.mem_of_getElem? (i := 1073) (by decide +kernel), List.mem_of_getElem? (i := 1074) (by decide +kernel)⟩
def lw_privs_4 : List (MethodName × Nat) := [(⟨"AmberGrainsModel", "days", "(I)V"⟩, 28), (⟨"AmberGrainsModel", "fits", "(III)I"⟩, 28), (⟨"AmberGrainsModel", "isAllSeen", "()Z"⟩, 28), (⟨"AmberGrainsModel", "all", "(III)I"⟩, 28), (⟨"AmberGrainsModel", "byKind", "(IIII)I"⟩, 28), (⟨"AmberGrainsModel", "body", "(I)I"⟩, 28)]
theorem lw_r4 : ∀ q ∈ lw_privs_4, lw_okq q := List.forall_mem_cons.mpr ⟨lw_p48, List.forall_mem_cons.mpr ⟨lw_p49, List.forall_mem_cons.mpr ⟨lw_p50, List.forall_mem_cons.mpr ⟨lw_p51, List.forall_mem_cons.mpr ⟨lw_p52, List.forall_mem_cons.mpr ⟨lw_p53, fun _ h => absurd h List.not_mem_nil⟩⟩⟩⟩⟩⟩
def lw_privs : List (MethodName × Nat) := lw_privs_1 ++ (lw_privs_2 ++ (lw_privs_3 ++ (lw_privs_4)))
def lw_tbl : List Cond := k2_sels lw_privs ++ tables_1
theorem lw_privs_ok : ∀ q ∈ lw_privs, lw_okq q := by
  show ∀ q ∈ lw_privs_1 ++ (lw_privs_2 ++ (lw_privs_3 ++ (lw_privs_4))), lw_okq q
  exact List.forall_mem_append.mpr ⟨lw_r1, List.forall_mem_append.mpr ⟨lw_r2, List.forall_mem_append.mpr ⟨lw_r3, lw_r4⟩⟩⟩
-- ===== end of PART A =====
/-- the words that may go to any method: those of the tables that hold later too -/
def TB : List Cond := lw_tbl.filter goodWord
theorem tb_at {w : Cond} (i : Nat) (h : lw_tbl[i]? = some w) (hg : goodWord w = true) : w ∈ TB := List.mem_filter.mpr ⟨List.mem_of_getElem? h, hg⟩
theorem tb_tbl : ∀ w ∈ TB, w ∈ lw_tbl := fun _ h => (List.mem_filter.mp h).1
theorem tb_good : GoodIn TB TB := fun w h => ⟨h, good_of_word (List.mem_filter.mp h).2⟩
end
section
theorem goodIn_r {big : List Cond} (ws : List Cond) (ps : List Nat) (hp : ws = ps.filterMap (fun i => big[i]?)) (h : ws.all goodWord = true) : GoodIn big ws := by
  intro w hw
  have h1 := List.all_eq_true.mp h w hw
  rw [hp] at hw
  obtain ⟨i, -, hi⟩ := List.mem_filterMap.mp hw
  have hm : w ∈ big := by first | exact List.mem_of_getElem? hi | exact List.getElem?_mem hi
  exact ⟨hm, good_of_word h1⟩
theorem goodIn_app {big a b : List Cond} (ha : GoodIn big a) (hb : GoodIn big b) : GoodIn big (a ++ b) := fun w h => (List.mem_append.mp h).elim (ha w) (hb w)
theorem goodIn_ca {big a b : List Cond} {c : Cond} (ha : GoodIn big (c :: a)) (hb : GoodIn big b) : GoodIn big (c :: (a ++ b)) := fun w h => (List.mem_cons.mp h).elim (fun e => ha w (List.mem_cons.mpr (Or.inl e))) (fun h => (List.mem_append.mp h).elim (fun h => ha w (List.mem_cons.mpr (Or.inr h))) (hb w))
theorem goodIn_sub {big ws : List Cond} (hm : ∀ w ∈ ws, w ∈ big) (h : ws.all goodWord = true) : GoodIn big ws := fun w hw => ⟨hm w hw, good_of_word (List.all_eq_true.mp h w hw)⟩
def RX0 : String := "AmberGrains$Reader"
def TX0 : u_T := fun k => match k with
  | 0 => ("AmberGrains$Reader", "text", "[B", true)
  | 1 => ("AmberGrains$Reader", "steps", "[I", true)
  | 2 => ("AmberGrains$Reader", "length", "I", false)
  | 3 => ("AmberGrains$Reader", "at", "I", false)
  | 4 => ("AmberGrains$Reader", "fits", "Z", false)
  | 5 => ("AmberGrains$Reader", "stepsRead", "I", false)
  | _ => ("AmberGrains$Reader", "room", "I", false)
def tyX0 : Nat → FieldType := fun k => match k with
  | 0 => .array .byte
  | 1 => .array .int
  | 2 => .int
  | 3 => .int
  | 4 => .boolean
  | 5 => .int
  | _ => .int
abbrev wsX00 : List Cond := u_ws RX0 TX0 7
theorem nmX0 : ∀ a, a < 7 → ∀ b, b < 7 → a ≠ b → (TX0 a).2.1 ≠ (TX0 b).2.1 := by decide +kernel
theorem tyX0_ok : ∀ k, k < 7 → parseFieldDescriptor (TX0 k).2.2.1 = some (tyX0 k) := by decide +kernel
abbrev cX0_init : ByteArray := prog_2_method_1_code
def yX0_init : MethodName := ⟨RX0, "<init>", "()V"⟩
abbrev cX0_takes : ByteArray := prog_2_method_2_code
def yX0_takes : MethodName := ⟨RX0, "takes", "(I)I"⟩
abbrev cX0_readsSea : ByteArray := prog_2_method_3_code
def yX0_readsSea : MethodName := ⟨RX0, "readsSea", "()LAmberGrains$Sea;"⟩
abbrev cX0_fault : ByteArray := prog_2_method_4_code
def yX0_fault : MethodName := ⟨RX0, "fault", "()I"⟩
abbrev cX0_clause : ByteArray := prog_2_method_5_code
def yX0_clause : MethodName := ⟨RX0, "clause", "()V"⟩
abbrev cX0_either : ByteArray := prog_2_method_6_code
def yX0_either : MethodName := ⟨RX0, "either", "(I)V"⟩
abbrev cX0_single : ByteArray := prog_2_method_7_code
def yX0_single : MethodName := ⟨RX0, "single", "(I)V"⟩
abbrev cX0_test : ByteArray := prog_2_method_8_code
def yX0_test : MethodName := ⟨RX0, "test", "()V"⟩
abbrev cX0_sign : ByteArray := prog_2_method_9_code
def yX0_sign : MethodName := ⟨RX0, "sign", "()I"⟩
abbrev cX0_letters : ByteArray := prog_2_method_10_code
def yX0_letters : MethodName := ⟨RX0, "letters", "(Ljava/lang/String;)V"⟩
abbrev cX0_number : ByteArray := prog_2_method_11_code
def yX0_number : MethodName := ⟨RX0, "number", "()I"⟩
abbrev cX0_step : ByteArray := prog_2_method_12_code
def yX0_step : MethodName := ⟨RX0, "step", "(III)V"⟩
def RX1 : String := "AmberGrains$Rows"
def TX1 : u_T := fun k => match k with
  | 0 => ("AmberGrains$Rows", "most", "I", true)
  | 1 => ("AmberGrains$Rows", "cells", "[I", true)
  | _ => ("AmberGrains$Rows", "size", "I", false)
def tyX1 : Nat → FieldType := fun k => match k with
  | 0 => .int
  | 1 => .array .int
  | _ => .int
abbrev wsX10 : List Cond := u_ws RX1 TX1 3
theorem nmX1 : ∀ a, a < 3 → ∀ b, b < 3 → a ≠ b → (TX1 a).2.1 ≠ (TX1 b).2.1 := by decide +kernel
theorem tyX1_ok : ∀ k, k < 3 → parseFieldDescriptor (TX1 k).2.2.1 = some (tyX1 k) := by decide +kernel
abbrev cX1_init : ByteArray := prog_3_method_1_code
def yX1_init : MethodName := ⟨RX1, "<init>", "(I)V"⟩
abbrev cX1_emptied : ByteArray := prog_3_method_2_code
def yX1_emptied : MethodName := ⟨RX1, "emptied", "()I"⟩
abbrev cX1_takes : ByteArray := prog_3_method_3_code
def yX1_takes : MethodName := ⟨RX1, "takes", "(III)I"⟩
abbrev cX1_cell : ByteArray := prog_3_method_4_code
def yX1_cell : MethodName := ⟨RX1, "cell", "(II)I"⟩
abbrev cX1_becomes : ByteArray := prog_3_method_5_code
def yX1_becomes : MethodName := ⟨RX1, "becomes", "(LAmberGrains$Rows;)V"⟩
def RX2 : String := "AmberGrains$Sea"
def TX2 : u_T := fun k => match k with
  | 0 => ("AmberGrains$Sea", "steps", "[I", true)
  | _ => ("AmberGrains$Sea", "room", "I", true)
def tyX2 : Nat → FieldType := fun k => match k with
  | 0 => .array .int
  | _ => .int
abbrev wsX20 : List Cond := u_ws RX2 TX2 2
theorem nmX2 : ∀ a, a < 2 → ∀ b, b < 2 → a ≠ b → (TX2 a).2.1 ≠ (TX2 b).2.1 := by decide +kernel
theorem tyX2_ok : ∀ k, k < 2 → parseFieldDescriptor (TX2 k).2.2.1 = some (tyX2 k) := by decide +kernel
abbrev cX2_init : ByteArray := prog_4_method_1_code
def yX2_init : MethodName := ⟨RX2, "<init>", "([II)V"⟩
abbrev cX2_step : ByteArray := prog_4_method_2_code
def yX2_step : MethodName := ⟨RX2, "step", "(III)I"⟩
abbrev cX2_adds : ByteArray := prog_4_method_3_code
def yX2_adds : MethodName := ⟨RX2, "adds", "([I)I"⟩
def RX3 : String := "AmberGrains$Tape"
def TX3 : u_T := fun k => match k with
  | 0 => ("AmberGrains$Tape", "items", "[J", true)
  | 1 => ("AmberGrains$Tape", "sort", "I", false)
  | _ => ("AmberGrains$Tape", "size", "I", false)
def tyX3 : Nat → FieldType := fun k => match k with
  | 0 => .array .long
  | 1 => .int
  | _ => .int
abbrev wsX30 : List Cond := u_ws RX3 TX3 3
theorem nmX3 : ∀ a, a < 3 → ∀ b, b < 3 → a ≠ b → (TX3 a).2.1 ≠ (TX3 b).2.1 := by decide +kernel
theorem tyX3_ok : ∀ k, k < 3 → parseFieldDescriptor (TX3 k).2.2.1 = some (tyX3 k) := by decide +kernel
abbrev cX3_init : ByteArray := prog_5_method_1_code
def yX3_init : MethodName := ⟨RX3, "<init>", "()V"⟩
abbrev cX3_becomesRow : ByteArray := prog_5_method_2_code
def yX3_becomesRow : MethodName := ⟨RX3, "becomesRow", "(II)V"⟩
abbrev cX3_fitted : ByteArray := prog_5_method_3_code
def yX3_fitted : MethodName := ⟨RX3, "fitted", "(J)J"⟩
def RX4 : String := "AmberGrains$Voice"
def TX4 : u_T := fun k => match k with
  | 0 => ("AmberGrains$Voice", "kept", "[I", true)
  | 1 => ("AmberGrains$Voice", "ran", "I", false)
  | 2 => ("AmberGrains$Voice", "i", "I", false)
  | 3 => ("AmberGrains$Voice", "kind", "I", false)
  | _ => ("AmberGrains$Voice", "v", "I", false)
def tyX4 : Nat → FieldType := fun k => match k with
  | 0 => .array .int
  | 1 => .int
  | 2 => .int
  | 3 => .int
  | _ => .int
abbrev wsX40 : List Cond := u_ws RX4 TX4 5
theorem nmX4 : ∀ a, a < 5 → ∀ b, b < 5 → a ≠ b → (TX4 a).2.1 ≠ (TX4 b).2.1 := by decide +kernel
theorem tyX4_ok : ∀ k, k < 5 → parseFieldDescriptor (TX4 k).2.2.1 = some (tyX4 k) := by decide +kernel
abbrev cX4_init : ByteArray := prog_6_method_1_code
def yX4_init : MethodName := ⟨RX4, "<init>", "()V"⟩
abbrev cX4_kindAbove : ByteArray := prog_6_method_2_code
def yX4_kindAbove : MethodName := ⟨RX4, "kindAbove", "(I)I"⟩
abbrev cX4_becomesThatOf : ByteArray := prog_6_method_3_code
def yX4_becomesThatOf : MethodName := ⟨RX4, "becomesThatOf", "(III)V"⟩
abbrev cX4_does : ByteArray := prog_6_method_4_code
def yX4_does : MethodName := ⟨RX4, "does", "(II)I"⟩
abbrev cX4_from : ByteArray := prog_6_method_5_code
def yX4_from : MethodName := ⟨RX4, "from", "(IIII)I"⟩
abbrev cX4_body : ByteArray := prog_6_method_6_code
def yX4_body : MethodName := ⟨RX4, "body", "(III)I"⟩
def RX5 : String := "AmberGrains$World"
def TX5 : u_T := fun k => match k with
  | 0 => ("AmberGrains$World", "oldest", "I", true)
  | 1 => ("AmberGrains$World", "kind", "[I", true)
  | 2 => ("AmberGrains$World", "v", "[I", true)
  | 3 => ("AmberGrains$World", "weight", "[I", true)
  | 4 => ("AmberGrains$World", "state", "[I", true)
  | 5 => ("AmberGrains$World", "age", "[I", true)
  | 6 => ("AmberGrains$World", "place", "[I", true)
  | 7 => ("AmberGrains$World", "row", "[I", true)
  | 8 => ("AmberGrains$World", "current", "[I", true)
  | 9 => ("AmberGrains$World", "letters", "[I", true)
  | 10 => ("AmberGrains$World", "tellers", "I", false)
  | 11 => ("AmberGrains$World", "shore", "I", false)
  | 12 => ("AmberGrains$World", "finder", "I", false)
  | 13 => ("AmberGrains$World", "day", "I", false)
  | _ => ("AmberGrains$World", "sea", "LAmberGrains$Sea;", false)
def tyX5 : Nat → FieldType := fun k => match k with
  | 0 => .int
  | 1 => .array .int
  | 2 => .array .int
  | 3 => .array .int
  | 4 => .array .int
  | 5 => .array .int
  | 6 => .array .int
  | 7 => .array .int
  | 8 => .array .int
  | 9 => .array .int
  | 10 => .int
  | 11 => .int
  | 12 => .int
  | 13 => .int
  | _ => .object "AmberGrains$Sea"
abbrev wsX50 : List Cond := u_ws RX5 TX5 15
theorem nmX5 : ∀ a, a < 15 → ∀ b, b < 15 → a ≠ b → (TX5 a).2.1 ≠ (TX5 b).2.1 := by decide +kernel
theorem tyX5_ok : ∀ k, k < 15 → parseFieldDescriptor (TX5 k).2.2.1 = some (tyX5 k) := by decide +kernel
abbrev cX5_init : ByteArray := prog_7_method_1_code
def yX5_init : MethodName := ⟨RX5, "<init>", "(I)V"⟩
abbrev cX5_becomes : ByteArray := prog_7_method_2_code
def yX5_becomes : MethodName := ⟨RX5, "becomes", "(LAmberGrains$World;)V"⟩
abbrev cX5_has : ByteArray := prog_7_method_3_code
def yX5_has : MethodName := ⟨RX5, "has", "(I)Z"⟩
abbrev cX5_comesNew : ByteArray := prog_7_method_4_code
def yX5_comesNew : MethodName := ⟨RX5, "comesNew", "(III)I"⟩
abbrev cX5_isTold : ByteArray := prog_7_method_5_code
def yX5_isTold : MethodName := ⟨RX5, "isTold", "(I)V"⟩
abbrev cX5_isSilent : ByteArray := prog_7_method_6_code
def yX5_isSilent : MethodName := ⟨RX5, "isSilent", "(I)V"⟩
abbrev cX5_room : ByteArray := prog_7_method_7_code
def yX5_room : MethodName := ⟨RX5, "room", "()I"⟩
abbrev cX5_howManyFound : ByteArray := prog_7_method_8_code
def yX5_howManyFound : MethodName := ⟨RX5, "howManyFound", "()I"⟩
abbrev cX5_withinBits : ByteArray := prog_7_method_9_code
def yX5_withinBits : MethodName := ⟨RX5, "withinBits", "()I"⟩
abbrev cX5_withinLoads : ByteArray := prog_7_method_10_code
def yX5_withinLoads : MethodName := ⟨RX5, "withinLoads", "()I"⟩
abbrev cX5_load : ByteArray := prog_7_method_11_code
def yX5_load : MethodName := ⟨RX5, "load", "(I)I"⟩
abbrev cX5_fillLetters : ByteArray := prog_7_method_12_code
def yX5_fillLetters : MethodName := ⟨RX5, "fillLetters", "(I)V"⟩
abbrev cX5_twinsShare : ByteArray := prog_7_method_13_code
def yX5_twinsShare : MethodName := ⟨RX5, "twinsShare", "(I)I"⟩
abbrev cX5_daysGo : ByteArray := prog_7_method_14_code
def yX5_daysGo : MethodName := ⟨RX5, "daysGo", "(I)V"⟩
abbrev cX5_dayGoes : ByteArray := prog_7_method_15_code
def yX5_dayGoes : MethodName := ⟨RX5, "dayGoes", "()V"⟩
abbrev cX5_bringUp : ByteArray := prog_7_method_16_code
def yX5_bringUp : MethodName := ⟨RX5, "bringUp", "()V"⟩
abbrev cX5_drift : ByteArray := prog_7_method_17_code
def yX5_drift : MethodName := ⟨RX5, "drift", "()V"⟩
def RX6 : String := "AmberGrains"
def TX6 : u_T := fun k => match k with
  | 0 => ("AmberGrains", "now", "LAmberGrains$World;", true)
  | 1 => ("AmberGrains", "trial", "LAmberGrains$World;", true)
  | 2 => ("AmberGrains", "imaged", "LAmberGrains$World;", true)
  | 3 => ("AmberGrains", "hasImage", "Z", false)
  | 4 => ("AmberGrains", "seen", "LAmberGrains$Rows;", true)
  | 5 => ("AmberGrains", "plans", "LAmberGrains$Rows;", true)
  | 6 => ("AmberGrains", "books", "LAmberGrains$Rows;", true)
  | 7 => ("AmberGrains", "imagedSeen", "LAmberGrains$Rows;", true)
  | 8 => ("AmberGrains", "imagedPlans", "LAmberGrains$Rows;", true)
  | 9 => ("AmberGrains", "imagedBooks", "LAmberGrains$Rows;", true)
  | 10 => ("AmberGrains", "reader", "LAmberGrains$Reader;", true)
  | 11 => ("AmberGrains", "seas", "I", false)
  | 12 => ("AmberGrains", "tapes", "[LAmberGrains$Tape;", true)
  | _ => ("AmberGrains", "voice", "LAmberGrains$Voice;", true)
def tyX6 : Nat → FieldType := fun k => match k with
  | 0 => .object "AmberGrains$World"
  | 1 => .object "AmberGrains$World"
  | 2 => .object "AmberGrains$World"
  | 3 => .boolean
  | 4 => .object "AmberGrains$Rows"
  | 5 => .object "AmberGrains$Rows"
  | 6 => .object "AmberGrains$Rows"
  | 7 => .object "AmberGrains$Rows"
  | 8 => .object "AmberGrains$Rows"
  | 9 => .object "AmberGrains$Rows"
  | 10 => .object "AmberGrains$Reader"
  | 11 => .int
  | 12 => .array (.object "AmberGrains$Tape")
  | _ => .object "AmberGrains$Voice"
abbrev wsX60 : List Cond := u_ws RX6 TX6 14
theorem nmX6 : ∀ a, a < 14 → ∀ b, b < 14 → a ≠ b → (TX6 a).2.1 ≠ (TX6 b).2.1 := by decide +kernel
theorem tyX6_ok : ∀ k, k < 14 → parseFieldDescriptor (TX6 k).2.2.1 = some (tyX6 k) := by decide +kernel
abbrev cX6_init : ByteArray := prog_1_method_1_code
def yX6_init : MethodName := ⟨RX6, "<init>", "()V"⟩
abbrev cX6_teller : ByteArray := prog_1_method_2_code
def yX6_teller : MethodName := ⟨RX6, "teller", "(III)I"⟩
abbrev cX6_of : ByteArray := prog_1_method_3_code
def yX6_of : MethodName := ⟨RX6, "of", "(II)I"⟩
abbrev cX6_tell : ByteArray := prog_1_method_4_code
def yX6_tell : MethodName := ⟨RX6, "tell", "(I)I"⟩
abbrev cX6_weigh : ByteArray := prog_1_method_5_code
def yX6_weigh : MethodName := ⟨RX6, "weigh", "(II)I"⟩
abbrev cX6_put : ByteArray := prog_1_method_6_code
def yX6_put : MethodName := ⟨RX6, "put", "(III)I"⟩
abbrev cX6_sea : ByteArray := prog_1_method_7_code
def yX6_sea : MethodName := ⟨RX6, "sea", "(II)I"⟩
abbrev cX6_row : ByteArray := prog_1_method_8_code
def yX6_row : MethodName := ⟨RX6, "row", "(III)I"⟩
abbrev cX6_feed : ByteArray := prog_1_method_9_code
def yX6_feed : MethodName := ⟨RX6, "feed", "(I)I"⟩
abbrev cX6_chart : ByteArray := prog_1_method_10_code
def yX6_chart : MethodName := ⟨RX6, "chart", "()I"⟩
abbrev cX6_told : ByteArray := prog_1_method_11_code
def yX6_told : MethodName := ⟨RX6, "told", "(I)I"⟩
abbrev cX6_pass : ByteArray := prog_1_method_12_code
def yX6_pass : MethodName := ⟨RX6, "pass", "(I)I"⟩
abbrev cX6_on : ByteArray := prog_1_method_13_code
def yX6_on : MethodName := ⟨RX6, "on", "(II)I"⟩
abbrev cX6_begin : ByteArray := prog_1_method_14_code
def yX6_begin : MethodName := ⟨RX6, "begin", "(II)I"⟩
abbrev cX6_see : ByteArray := prog_1_method_15_code
def yX6_see : MethodName := ⟨RX6, "see", "(III)I"⟩
abbrev cX6_weights : ByteArray := prog_1_method_16_code
def yX6_weights : MethodName := ⟨RX6, "weights", "(I)I"⟩
abbrev cX6_can : ByteArray := prog_1_method_17_code
def yX6_can : MethodName := ⟨RX6, "can", "(II)I"⟩
abbrev cX6_odds : ByteArray := prog_1_method_18_code
def yX6_odds : MethodName := ⟨RX6, "odds", "(III)J"⟩
abbrev cX6_mean : ByteArray := prog_1_method_19_code
def yX6_mean : MethodName := ⟨RX6, "mean", "(I)J"⟩
abbrev cX6_plan : ByteArray := prog_1_method_20_code
def yX6_plan : MethodName := ⟨RX6, "plan", "(II)I"⟩
abbrev cX6_ends : ByteArray := prog_1_method_21_code
def yX6_ends : MethodName := ⟨RX6, "ends", "(I)I"⟩
abbrev cX6_book : ByteArray := prog_1_method_22_code
def yX6_book : MethodName := ⟨RX6, "book", "(II)I"⟩
abbrev cX6_looked : ByteArray := prog_1_method_23_code
def yX6_looked : MethodName := ⟨RX6, "looked", "()I"⟩
abbrev cX6_judge : ByteArray := prog_1_method_24_code
def yX6_judge : MethodName := ⟨RX6, "judge", "(II)I"⟩
abbrev cX6_image : ByteArray := prog_1_method_25_code
def yX6_image : MethodName := ⟨RX6, "image", "()I"⟩
abbrev cX6_undo : ByteArray := prog_1_method_26_code
def yX6_undo : MethodName := ⟨RX6, "undo", "()I"⟩
abbrev cX6_act : ByteArray := prog_1_method_27_code
def yX6_act : MethodName := ⟨RX6, "act", "(III)I"⟩
abbrev cX6_trace : ByteArray := prog_1_method_28_code
def yX6_trace : MethodName := ⟨RX6, "trace", "(I)I"⟩
abbrev cX6_taken : ByteArray := prog_1_method_29_code
def yX6_taken : MethodName := ⟨RX6, "taken", "(II)I"⟩
abbrev cX6_count : ByteArray := prog_1_method_30_code
def yX6_count : MethodName := ⟨RX6, "count", "(I)I"⟩
abbrev cX6_tape : ByteArray := prog_1_method_31_code
def yX6_tape : MethodName := ⟨RX6, "tape", "(III)I"⟩
abbrev cX6_item : ByteArray := prog_1_method_32_code
def yX6_item : MethodName := ⟨RX6, "item", "(IIJ)I"⟩
abbrev cX6_read : ByteArray := prog_1_method_33_code
def yX6_read : MethodName := ⟨RX6, "read", "(II)J"⟩
abbrev cX6_shift : ByteArray := prog_1_method_34_code
def yX6_shift : MethodName := ⟨RX6, "shift", "(IIIII)I"⟩
abbrev cX6_isPlace : ByteArray := prog_1_method_35_code
def yX6_isPlace : MethodName := ⟨RX6, "isPlace", "(I)Z"⟩
abbrev cX6_isTape : ByteArray := prog_1_method_36_code
def yX6_isTape : MethodName := ⟨RX6, "isTape", "(I)Z"⟩
abbrev cX6_inLowestTerms : ByteArray := prog_1_method_37_code
def yX6_inLowestTerms : MethodName := ⟨RX6, "inLowestTerms", "(III)J"⟩
abbrev cX6_blowOf : ByteArray := prog_1_method_38_code
def yX6_blowOf : MethodName := ⟨RX6, "blowOf", "(I)I"⟩
abbrev cX6_newsOf : ByteArray := prog_1_method_39_code
def yX6_newsOf : MethodName := ⟨RX6, "newsOf", "(I)I"⟩
abbrev cX6_trialComes : ByteArray := prog_1_method_40_code
def yX6_trialComes : MethodName := ⟨RX6, "trialComes", "(II)I"⟩
abbrev cX6_trialFromFinderAt : ByteArray := prog_1_method_41_code
def yX6_trialFromFinderAt : MethodName := ⟨RX6, "trialFromFinderAt", "(II)V"⟩
abbrev cX6_trialIsAsSeen : ByteArray := prog_1_method_42_code
def yX6_trialIsAsSeen : MethodName := ⟨RX6, "trialIsAsSeen", "()Z"⟩
abbrev cX6_trialIsAsSeenOn : ByteArray := prog_1_method_43_code
def yX6_trialIsAsSeenOn : MethodName := ⟨RX6, "trialIsAsSeenOn", "(I)Z"⟩
abbrev cX6_trialDoes : ByteArray := prog_1_method_44_code
def yX6_trialDoes : MethodName := ⟨RX6, "trialDoes", "(II)V"⟩
def RX7 : String := "AmberGrainsModel"
def TX7 : u_T := fun k => match k with
  | 0 => ("AmberGrainsModel", "now", "[I", true)
  | 1 => ("AmberGrainsModel", "mind", "[I", true)
  | 2 => ("AmberGrainsModel", "then", "[I", true)
  | 3 => ("AmberGrainsModel", "kept", "Z", false)
  | 4 => ("AmberGrainsModel", "text", "[I", true)
  | 5 => ("AmberGrainsModel", "texted", "I", false)
  | 6 => ("AmberGrainsModel", "rules", "[I", true)
  | 7 => ("AmberGrainsModel", "sizes", "[I", true)
  | 8 => ("AmberGrainsModel", "ruled", "I", false)
  | 9 => ("AmberGrainsModel", "read", "[I", true)
  | 10 => ("AmberGrainsModel", "size", "I", false)
  | 11 => ("AmberGrainsModel", "at", "I", false)
  | 12 => ("AmberGrainsModel", "well", "Z", false)
  | 13 => ("AmberGrainsModel", "within", "I", false)
  | 14 => ("AmberGrainsModel", "sum", "I", false)
  | 15 => ("AmberGrainsModel", "room", "I", false)
  | 16 => ("AmberGrainsModel", "names", "[I", true)
  | 17 => ("AmberGrainsModel", "letters", "[C", true)
  | 18 => ("AmberGrainsModel", "words", "[C", true)
  | 19 => ("AmberGrainsModel", "had", "[I", true)
  | 20 => ("AmberGrainsModel", "above", "[I", true)
  | 21 => ("AmberGrainsModel", "bodies", "[I", true)
  | 22 => ("AmberGrainsModel", "trace", "[I", true)
  | 23 => ("AmberGrainsModel", "ran", "I", false)
  | 24 => ("AmberGrainsModel", "sorts", "[I", true)
  | 25 => ("AmberGrainsModel", "lengths", "[I", true)
  | 26 => ("AmberGrainsModel", "items", "[J", true)
  | _ => ("AmberGrainsModel", "moved", "[J", true)
def tyX7 : Nat → FieldType := fun k => match k with
  | 0 => .array .int
  | 1 => .array .int
  | 2 => .array .int
  | 3 => .boolean
  | 4 => .array .int
  | 5 => .int
  | 6 => .array .int
  | 7 => .array .int
  | 8 => .int
  | 9 => .array .int
  | 10 => .int
  | 11 => .int
  | 12 => .boolean
  | 13 => .int
  | 14 => .int
  | 15 => .int
  | 16 => .array .int
  | 17 => .array .char
  | 18 => .array .char
  | 19 => .array .int
  | 20 => .array .int
  | 21 => .array .int
  | 22 => .array .int
  | 23 => .int
  | 24 => .array .int
  | 25 => .array .int
  | 26 => .array .long
  | _ => .array .long
abbrev wsX70 : List Cond := u_ws RX7 TX7 28
theorem nmX7 : ∀ a, a < 28 → ∀ b, b < 28 → a ≠ b → (TX7 a).2.1 ≠ (TX7 b).2.1 := by decide +kernel
theorem tyX7_ok : ∀ k, k < 28 → parseFieldDescriptor (TX7 k).2.2.1 = some (tyX7 k) := by decide +kernel
abbrev cX7_init : ByteArray := prog_9_method_1_code
def yX7_init : MethodName := ⟨RX7, "<init>", "()V"⟩
abbrev cX7_isIn : ByteArray := prog_9_method_2_code
def yX7_isIn : MethodName := ⟨RX7, "isIn", "(III)Z"⟩
abbrev cX7_fresh : ByteArray := prog_9_method_3_code
def yX7_fresh : MethodName := ⟨RX7, "fresh", "()[I"⟩
abbrev cX7_move : ByteArray := prog_9_method_4_code
def yX7_move : MethodName := ⟨RX7, "move", "([I[I)V"⟩
abbrev cX7_image : ByteArray := prog_9_method_5_code
def yX7_image : MethodName := ⟨RX7, "image", "()I"⟩
abbrev cX7_undo : ByteArray := prog_9_method_6_code
def yX7_undo : MethodName := ⟨RX7, "undo", "()I"⟩
abbrev cX7_isOne : ByteArray := prog_9_method_7_code
def yX7_isOne : MethodName := ⟨RX7, "isOne", "(I)Z"⟩
abbrev cX7_isPlace : ByteArray := prog_9_method_8_code
def yX7_isPlace : MethodName := ⟨RX7, "isPlace", "(I)Z"⟩
abbrev cX7_one : ByteArray := prog_9_method_9_code
def yX7_one : MethodName := ⟨RX7, "one", "(II)I"⟩
abbrev cX7_change : ByteArray := prog_9_method_10_code
def yX7_change : MethodName := ⟨RX7, "change", "(III)I"⟩
abbrev cX7_isAs : ByteArray := prog_9_method_11_code
def yX7_isAs : MethodName := ⟨RX7, "isAs", "(II)Z"⟩
abbrev cX7_teller : ByteArray := prog_9_method_12_code
def yX7_teller : MethodName := ⟨RX7, "teller", "(III)I"⟩
abbrev cX7_of : ByteArray := prog_9_method_13_code
def yX7_of : MethodName := ⟨RX7, "of", "(II)I"⟩
abbrev cX7_says : ByteArray := prog_9_method_14_code
def yX7_says : MethodName := ⟨RX7, "says", "(I)V"⟩
abbrev cX7_tell : ByteArray := prog_9_method_15_code
def yX7_tell : MethodName := ⟨RX7, "tell", "(I)I"⟩
abbrev cX7_weigh : ByteArray := prog_9_method_16_code
def yX7_weigh : MethodName := ⟨RX7, "weigh", "(II)I"⟩
abbrev cX7_put : ByteArray := prog_9_method_17_code
def yX7_put : MethodName := ⟨RX7, "put", "(III)I"⟩
abbrev cX7_sea : ByteArray := prog_9_method_18_code
def yX7_sea : MethodName := ⟨RX7, "sea", "(II)I"⟩
abbrev cX7_row : ByteArray := prog_9_method_19_code
def yX7_row : MethodName := ⟨RX7, "row", "(III)I"⟩
abbrev cX7_feed : ByteArray := prog_9_method_20_code
def yX7_feed : MethodName := ⟨RX7, "feed", "(I)I"⟩
abbrev cX7_isAt : ByteArray := prog_9_method_21_code
def yX7_isAt : MethodName := ⟨RX7, "isAt", "(I)Z"⟩
abbrev cX7_takes : ByteArray := prog_9_method_22_code
def yX7_takes : MethodName := ⟨RX7, "takes", "(I)V"⟩
abbrev cX7_isDigit : ByteArray := prog_9_method_23_code
def yX7_isDigit : MethodName := ⟨RX7, "isDigit", "()Z"⟩
abbrev cX7_number : ByteArray := prog_9_method_24_code
def yX7_number : MethodName := ⟨RX7, "number", "()I"⟩
abbrev cX7_test : ByteArray := prog_9_method_25_code
def yX7_test : MethodName := ⟨RX7, "test", "()Z"⟩
abbrev cX7_factor : ByteArray := prog_9_method_26_code
def yX7_factor : MethodName := ⟨RX7, "factor", "()Z"⟩
abbrev cX7_both : ByteArray := prog_9_method_27_code
def yX7_both : MethodName := ⟨RX7, "both", "()Z"⟩
abbrev cX7_any : ByteArray := prog_9_method_28_code
def yX7_any : MethodName := ⟨RX7, "any", "()Z"⟩
abbrev cX7_clause : ByteArray := prog_9_method_29_code
def yX7_clause : MethodName := ⟨RX7, "clause", "()V"⟩
abbrev cX7_readAll : ByteArray := prog_9_method_30_code
def yX7_readAll : MethodName := ⟨RX7, "readAll", "()Z"⟩
abbrev cX7_readFor : ByteArray := prog_9_method_31_code
def yX7_readFor : MethodName := ⟨RX7, "readFor", "(I)V"⟩
abbrev cX7_chart : ByteArray := prog_9_method_32_code
def yX7_chart : MethodName := ⟨RX7, "chart", "()I"⟩
abbrev cX7_isAnotherTwin : ByteArray := prog_9_method_33_code
def yX7_isAnotherTwin : MethodName := ⟨RX7, "isAnotherTwin", "(I)Z"⟩
abbrev cX7_load : ByteArray := prog_9_method_34_code
def yX7_load : MethodName := ⟨RX7, "load", "(I)I"⟩
abbrev cX7_loads : ByteArray := prog_9_method_35_code
def yX7_loads : MethodName := ⟨RX7, "loads", "()I"⟩
abbrev cX7_roomNow : ByteArray := prog_9_method_36_code
def yX7_roomNow : MethodName := ⟨RX7, "roomNow", "()I"⟩
abbrev cX7_howMany : ByteArray := prog_9_method_37_code
def yX7_howMany : MethodName := ⟨RX7, "howMany", "(I)I"⟩
abbrev cX7_which : ByteArray := prog_9_method_38_code
def yX7_which : MethodName := ⟨RX7, "which", "(I)I"⟩
abbrev cX7_bringUp : ByteArray := prog_9_method_39_code
def yX7_bringUp : MethodName := ⟨RX7, "bringUp", "()V"⟩
abbrev cX7_day : ByteArray := prog_9_method_40_code
def yX7_day : MethodName := ⟨RX7, "day", "()V"⟩
abbrev cX7_days : ByteArray := prog_9_method_41_code
def yX7_days : MethodName := ⟨RX7, "days", "(I)V"⟩
abbrev cX7_comes : ByteArray := prog_9_method_42_code
def yX7_comes : MethodName := ⟨RX7, "comes", "(II)I"⟩
abbrev cX7_late : ByteArray := prog_9_method_43_code
def yX7_late : MethodName := ⟨RX7, "late", "(I)I"⟩
abbrev cX7_blow : ByteArray := prog_9_method_44_code
def yX7_blow : MethodName := ⟨RX7, "blow", "(I)I"⟩
abbrev cX7_news : ByteArray := prog_9_method_45_code
def yX7_news : MethodName := ⟨RX7, "news", "(I)I"⟩
abbrev cX7_told : ByteArray := prog_9_method_46_code
def yX7_told : MethodName := ⟨RX7, "told", "(I)I"⟩
abbrev cX7_pass : ByteArray := prog_9_method_47_code
def yX7_pass : MethodName := ⟨RX7, "pass", "(I)I"⟩
abbrev cX7_on : ByteArray := prog_9_method_48_code
def yX7_on : MethodName := ⟨RX7, "on", "(II)I"⟩
abbrev cX7_begin : ByteArray := prog_9_method_49_code
def yX7_begin : MethodName := ⟨RX7, "begin", "(II)I"⟩
abbrev cX7_see : ByteArray := prog_9_method_50_code
def yX7_see : MethodName := ⟨RX7, "see", "(III)I"⟩
abbrev cX7_isAllSeen : ByteArray := prog_9_method_51_code
def yX7_isAllSeen : MethodName := ⟨RX7, "isAllSeen", "()Z"⟩
abbrev cX7_fits : ByteArray := prog_9_method_52_code
def yX7_fits : MethodName := ⟨RX7, "fits", "(III)I"⟩
abbrev cX7_weights : ByteArray := prog_9_method_53_code
def yX7_weights : MethodName := ⟨RX7, "weights", "(I)I"⟩
abbrev cX7_can : ByteArray := prog_9_method_54_code
def yX7_can : MethodName := ⟨RX7, "can", "(II)I"⟩
abbrev cX7_fraction : ByteArray := prog_9_method_55_code
def yX7_fraction : MethodName := ⟨RX7, "fraction", "(JJI)J"⟩
abbrev cX7_odds : ByteArray := prog_9_method_56_code
def yX7_odds : MethodName := ⟨RX7, "odds", "(III)J"⟩
abbrev cX7_mean : ByteArray := prog_9_method_57_code
def yX7_mean : MethodName := ⟨RX7, "mean", "(I)J"⟩
abbrev cX7_plan : ByteArray := prog_9_method_58_code
def yX7_plan : MethodName := ⟨RX7, "plan", "(II)I"⟩
abbrev cX7_ends : ByteArray := prog_9_method_59_code
def yX7_ends : MethodName := ⟨RX7, "ends", "(I)I"⟩
abbrev cX7_book : ByteArray := prog_9_method_60_code
def yX7_book : MethodName := ⟨RX7, "book", "(II)I"⟩
abbrev cX7_looked : ByteArray := prog_9_method_61_code
def yX7_looked : MethodName := ⟨RX7, "looked", "()I"⟩
abbrev cX7_body : ByteArray := prog_9_method_62_code
def yX7_body : MethodName := ⟨RX7, "body", "(I)I"⟩
abbrev cX7_all : ByteArray := prog_9_method_63_code
def yX7_all : MethodName := ⟨RX7, "all", "(III)I"⟩
abbrev cX7_byKind : ByteArray := prog_9_method_64_code
def yX7_byKind : MethodName := ⟨RX7, "byKind", "(IIII)I"⟩
abbrev cX7_act : ByteArray := prog_9_method_65_code
def yX7_act : MethodName := ⟨RX7, "act", "(III)I"⟩
abbrev cX7_trace : ByteArray := prog_9_method_66_code
def yX7_trace : MethodName := ⟨RX7, "trace", "(I)I"⟩
abbrev cX7_taken : ByteArray := prog_9_method_67_code
def yX7_taken : MethodName := ⟨RX7, "taken", "(II)I"⟩
abbrev cX7_count : ByteArray := prog_9_method_68_code
def yX7_count : MethodName := ⟨RX7, "count", "(I)I"⟩
abbrev cX7_isTape : ByteArray := prog_9_method_69_code
def yX7_isTape : MethodName := ⟨RX7, "isTape", "(I)Z"⟩
abbrev cX7_tape : ByteArray := prog_9_method_70_code
def yX7_tape : MethodName := ⟨RX7, "tape", "(III)I"⟩
abbrev cX7_item : ByteArray := prog_9_method_71_code
def yX7_item : MethodName := ⟨RX7, "item", "(IIJ)I"⟩
abbrev cX7_read : ByteArray := prog_9_method_72_code
def yX7_read : MethodName := ⟨RX7, "read", "(II)J"⟩
abbrev cX7_shift : ByteArray := prog_9_method_73_code
def yX7_shift : MethodName := ⟨RX7, "shift", "(IIIII)I"⟩
abbrev cX7_judge : ByteArray := prog_9_method_74_code
def yX7_judge : MethodName := ⟨RX7, "judge", "(II)I"⟩
def RJx145de : String := "java/io/Serializable"
def TJx145de : u_T := fun k => match k with
  | _ => ("", "", "", false)
def tyJx145de : Nat → FieldType := fun k => match k with
  | _ => .int
def RJx9f9b0 : String := "java/lang/CharSequence"
def TJx9f9b0 : u_T := fun k => match k with
  | _ => ("", "", "", false)
def tyJx9f9b0 : Nat → FieldType := fun k => match k with
  | _ => .int
def RJ11 : String := "java/lang/Character"
def TJ11 : u_T := fun k => match k with
  | _ => ("", "", "", false)
def tyJ11 : Nat → FieldType := fun k => match k with
  | _ => .int
abbrev wsJ110 : List Cond := u_ws RJ11 TJ11 0
abbrev cJ11_isValidCodePoint_9a6ad : ByteArray := prog_10_method_11_code
def yJ11_isValidCodePoint_9a6ad : MethodName := ⟨RJ11, "isValidCodePoint", "(I)Z"⟩
abbrev cJ11_highSurrogate_5068e : ByteArray := prog_10_method_28_code
def yJ11_highSurrogate_5068e : MethodName := ⟨RJ11, "highSurrogate", "(I)C"⟩
abbrev cJ11_lowSurrogate_5068e : ByteArray := prog_10_method_29_code
def yJ11_lowSurrogate_5068e : MethodName := ⟨RJ11, "lowSurrogate", "(I)C"⟩
def RJx8e188 : String := "java/lang/Cloneable"
def TJx8e188 : u_T := fun k => match k with
  | _ => ("", "", "", false)
def tyJx8e188 : Nat → FieldType := fun k => match k with
  | _ => .int
def RJxb160c : String := "java/lang/Comparable"
def TJxb160c : u_T := fun k => match k with
  | _ => ("", "", "", false)
def tyJxb160c : Nat → FieldType := fun k => match k with
  | _ => .int
def RJ6 : String := "java/lang/Integer"
def TJ6 : u_T := fun k => match k with
  | _ => ("", "", "", false)
def tyJ6 : Nat → FieldType := fun k => match k with
  | _ => .int
abbrev wsJ60 : List Cond := u_ws RJ6 TJ6 0
abbrev cJ6_bitCount_0f7a4 : ByteArray := prog_12_method_49_code
def yJ6_bitCount_0f7a4 : MethodName := ⟨RJ6, "bitCount", "(I)I"⟩
def RJ9 : String := "java/lang/Math"
def TJ9 : u_T := fun k => match k with
  | _ => ("", "", "", false)
def tyJ9 : Nat → FieldType := fun k => match k with
  | _ => .int
abbrev wsJ90 : List Cond := u_ws RJ9 TJ9 0
abbrev cJ9_abs_067f4 : ByteArray := prog_13_method_61_code
def yJ9_abs_067f4 : MethodName := ⟨RJ9, "abs", "(J)J"⟩
abbrev cJ9_max_7cf53 : ByteArray := prog_13_method_65_code
def yJ9_max_7cf53 : MethodName := ⟨RJ9, "max", "(II)I"⟩
abbrev cJ9_min_7cf53 : ByteArray := prog_13_method_69_code
def yJ9_min_7cf53 : MethodName := ⟨RJ9, "min", "(II)I"⟩
def RJ0 : String := "java/lang/String"
def TJ0 : u_T := fun k => match k with
  | _ => ("", "", "", false)
def tyJ0 : Nat → FieldType := fun k => match k with
  | _ => .int
abbrev wsJ00 : List Cond := u_ws RJ0 TJ0 0
abbrev cJ0_length_8abf5 : ByteArray := prog_14_method_54_code
def yJ0_length_8abf5 : MethodName := ⟨RJ0, "length", "()I"⟩
abbrev cJ0_charAt_5068e : ByteArray := prog_14_method_56_code
def yJ0_charAt_5068e : MethodName := ⟨RJ0, "charAt", "(I)C"⟩
abbrev cJ0_indexOf_0f7a4 : ByteArray := prog_14_method_79_code
def yJ0_indexOf_0f7a4 : MethodName := ⟨RJ0, "indexOf", "(I)I"⟩
abbrev cJ0_indexOf_7cf53 : ByteArray := prog_14_method_80_code
def yJ0_indexOf_7cf53 : MethodName := ⟨RJ0, "indexOf", "(II)I"⟩
abbrev cJ0_coder_7d493 : ByteArray := prog_14_method_152_code
def yJ0_coder_7d493 : MethodName := ⟨RJ0, "coder", "()B"⟩
abbrev cJ0_isLatin1_aae02 : ByteArray := prog_14_method_154_code
def yJ0_isLatin1_aae02 : MethodName := ⟨RJ0, "isLatin1", "()Z"⟩
abbrev cJ0_checkIndex_df160 : ByteArray := prog_14_method_155_code
def yJ0_checkIndex_df160 : MethodName := ⟨RJ0, "checkIndex", "(II)V"⟩
abbrev cJ0_checkBoundsBeginEnd_23922 : ByteArray := prog_14_method_158_code
def yJ0_checkBoundsBeginEnd_23922 : MethodName := ⟨RJ0, "checkBoundsBeginEnd", "(III)V"⟩
def RJ1 : String := "java/lang/StringLatin1"
def TJ1 : u_T := fun k => match k with
  | _ => ("", "", "", false)
def tyJ1 : Nat → FieldType := fun k => match k with
  | _ => .int
abbrev wsJ10 : List Cond := u_ws RJ1 TJ1 0
abbrev cJ1_charAt_3b067 : ByteArray := prog_15_method_2_code
def yJ1_charAt_3b067 : MethodName := ⟨RJ1, "charAt", "([BI)C"⟩
abbrev cJ1_canEncode_9a6ad : ByteArray := prog_15_method_4_code
def yJ1_canEncode_9a6ad : MethodName := ⟨RJ1, "canEncode", "(I)Z"⟩
abbrev cJ1_indexOf_4cfef : ByteArray := prog_15_method_22_code
def yJ1_indexOf_4cfef : MethodName := ⟨RJ1, "indexOf", "([BIII)I"⟩
abbrev cJ1_indexOfChar_4cfef : ByteArray := prog_15_method_23_code
def yJ1_indexOfChar_4cfef : MethodName := ⟨RJ1, "indexOfChar", "([BIII)I"⟩
def RJ2 : String := "java/lang/StringUTF16"
def TJ2 : u_T := fun k => match k with
  | _ => ("", "", "", false)
def tyJ2 : Nat → FieldType := fun k => match k with
  | _ => .int
abbrev wsJ20 : List Cond := u_ws RJ2 TJ2 0
abbrev cJ2_getChar_3b067 : ByteArray := prog_16_method_5_code
def yJ2_getChar_3b067 : MethodName := ⟨RJ2, "getChar", "([BI)C"⟩
abbrev cJ2_length_9d52b : ByteArray := prog_16_method_6_code
def yJ2_length_9d52b : MethodName := ⟨RJ2, "length", "([B)I"⟩
abbrev cJ2_indexOf_4cfef : ByteArray := prog_16_method_40_code
def yJ2_indexOf_4cfef : MethodName := ⟨RJ2, "indexOf", "([BIII)I"⟩
abbrev cJ2_indexOfChar_4cfef : ByteArray := prog_16_method_47_code
def yJ2_indexOfChar_4cfef : MethodName := ⟨RJ2, "indexOfChar", "([BIII)I"⟩
abbrev cJ2_indexOfCharUnsafe_4cfef : ByteArray := prog_16_method_48_code
def yJ2_indexOfCharUnsafe_4cfef : MethodName := ⟨RJ2, "indexOfCharUnsafe", "([BIII)I"⟩
abbrev cJ2_indexOfSupplementary_4cfef : ByteArray := prog_16_method_49_code
def yJ2_indexOfSupplementary_4cfef : MethodName := ⟨RJ2, "indexOfSupplementary", "([BIII)I"⟩
abbrev cJ2_charAt_3b067 : ByteArray := prog_16_method_83_code
def yJ2_charAt_3b067 : MethodName := ⟨RJ2, "charAt", "([BI)C"⟩
abbrev cJ2_checkIndex_2214a : ByteArray := prog_16_method_91_code
def yJ2_checkIndex_2214a : MethodName := ⟨RJ2, "checkIndex", "(I[B)V"⟩
abbrev cJ2_checkBoundsBeginEnd_d044e : ByteArray := prog_16_method_93_code
def yJ2_checkBoundsBeginEnd_d044e : MethodName := ⟨RJ2, "checkBoundsBeginEnd", "(II[B)V"⟩
def RJ10 : String := "java/lang/System"
def TJ10 : u_T := fun k => match k with
  | _ => ("", "", "", false)
def tyJ10 : Nat → FieldType := fun k => match k with
  | _ => .int
abbrev wsJ100 : List Cond := u_ws RJ10 TJ10 0
def RJxfd54e : String := "java/lang/constant/Constable"
def TJxfd54e : u_T := fun k => match k with
  | _ => ("", "", "", false)
def tyJxfd54e : Nat → FieldType := fun k => match k with
  | _ => .int
def RJx3cf43 : String := "java/lang/constant/ConstantDesc"
def TJx3cf43 : u_T := fun k => match k with
  | _ => ("", "", "", false)
def tyJx3cf43 : Nat → FieldType := fun k => match k with
  | _ => .int
def RJ7 : String := "java/util/Arrays"
def TJ7 : u_T := fun k => match k with
  | _ => ("", "", "", false)
def tyJ7 : Nat → FieldType := fun k => match k with
  | _ => .int
abbrev wsJ70 : List Cond := u_ws RJ7 TJ7 0
abbrev cJ7_fill_d0a16 : ByteArray := prog_18_method_101_code
def yJ7_fill_d0a16 : MethodName := ⟨RJ7, "fill", "([JJ)V"⟩
abbrev cJ7_fill_53178 : ByteArray := prog_18_method_103_code
def yJ7_fill_53178 : MethodName := ⟨RJ7, "fill", "([II)V"⟩
abbrev cJ7_copyOf_59c91 : ByteArray := prog_18_method_123_code
def yJ7_copyOf_59c91 : MethodName := ⟨RJ7, "copyOf", "([II)[I"⟩
def RJ3 : String := "jdk/internal/util/Preconditions"
def TJ3 : u_T := fun k => match k with
  | _ => ("", "", "", false)
def tyJ3 : Nat → FieldType := fun k => match k with
  | _ => .int
abbrev wsJ30 : List Cond := u_ws RJ3 TJ3 0
abbrev cJ3_checkIndex_8e157 : ByteArray := prog_19_method_11_code
def yJ3_checkIndex_8e157 : MethodName := ⟨RJ3, "checkIndex", "(IILjava/util/function/BiFunction;)I"⟩
abbrev cJ3_checkFromToIndex_8c36e : ByteArray := prog_19_method_12_code
def yJ3_checkFromToIndex_8c36e : MethodName := ⟨RJ3, "checkFromToIndex", "(IIILjava/util/function/BiFunction;)I"⟩
def RL : String := "AmberGrainsLaw"
abbrev cL_law : ByteArray := code
def yL_law : MethodName := ⟨RL, "law", "([I)Z"⟩
theorem inX0 : ∀ w ∈ wsX00, w ∈ TB := by
  intro w h
  obtain ⟨k, hk, rfl⟩ := List.mem_map.mp h
  have hk2 : k < 7 := List.mem_range.mp hk
  exact (match k, hk2 with | 0, _ => tb_at 190 (by decide +kernel) (by decide +kernel) | 1, _ => tb_at 192 (by decide +kernel) (by decide +kernel) | 2, _ => tb_at 194 (by decide +kernel) (by decide +kernel) | 3, _ => tb_at 196 (by decide +kernel) (by decide +kernel) | 4, _ => tb_at 198 (by decide +kernel) (by decide +kernel) | 5, _ => tb_at 200 (by decide +kernel) (by decide +kernel) | 6, _ => tb_at 202 (by decide +kernel) (by decide +kernel) | k + 7, h => absurd h (by omega))
theorem inX1 : ∀ w ∈ wsX10, w ∈ TB := by
  intro w h
  obtain ⟨k, hk, rfl⟩ := List.mem_map.mp h
  have hk2 : k < 3 := List.mem_range.mp hk
  exact (match k, hk2 with | 0, _ => tb_at 169 (by decide +kernel) (by decide +kernel) | 1, _ => tb_at 171 (by decide +kernel) (by decide +kernel) | 2, _ => tb_at 173 (by decide +kernel) (by decide +kernel) | k + 3, h => absurd h (by omega))
theorem inX2 : ∀ w ∈ wsX20, w ∈ TB := by
  intro w h
  obtain ⟨k, hk, rfl⟩ := List.mem_map.mp h
  have hk2 : k < 2 := List.mem_range.mp hk
  exact (match k, hk2 with | 0, _ => tb_at 578 (by decide +kernel) (by decide +kernel) | 1, _ => tb_at 580 (by decide +kernel) (by decide +kernel) | k + 2, h => absurd h (by omega))
theorem inX3 : ∀ w ∈ wsX30, w ∈ TB := by
  intro w h
  obtain ⟨k, hk, rfl⟩ := List.mem_map.mp h
  have hk2 : k < 3 := List.mem_range.mp hk
  exact (match k, hk2 with | 0, _ => tb_at 242 (by decide +kernel) (by decide +kernel) | 1, _ => tb_at 244 (by decide +kernel) (by decide +kernel) | 2, _ => tb_at 246 (by decide +kernel) (by decide +kernel) | k + 3, h => absurd h (by omega))
theorem inX4 : ∀ w ∈ wsX40, w ∈ TB := by
  intro w h
  obtain ⟨k, hk, rfl⟩ := List.mem_map.mp h
  have hk2 : k < 5 := List.mem_range.mp hk
  exact (match k, hk2 with | 0, _ => tb_at 220 (by decide +kernel) (by decide +kernel) | 1, _ => tb_at 222 (by decide +kernel) (by decide +kernel) | 2, _ => tb_at 224 (by decide +kernel) (by decide +kernel) | 3, _ => tb_at 226 (by decide +kernel) (by decide +kernel) | 4, _ => tb_at 228 (by decide +kernel) (by decide +kernel) | k + 5, h => absurd h (by omega))
theorem inX5 : ∀ w ∈ wsX50, w ∈ TB := by
  intro w h
  obtain ⟨k, hk, rfl⟩ := List.mem_map.mp h
  have hk2 : k < 15 := List.mem_range.mp hk
  exact (match k, hk2 with | 0, _ => tb_at 125 (by decide +kernel) (by decide +kernel) | 1, _ => tb_at 127 (by decide +kernel) (by decide +kernel) | 2, _ => tb_at 129 (by decide +kernel) (by decide +kernel) | 3, _ => tb_at 131 (by decide +kernel) (by decide +kernel) | 4, _ => tb_at 133 (by decide +kernel) (by decide +kernel) | 5, _ => tb_at 135 (by decide +kernel) (by decide +kernel) | 6, _ => tb_at 137 (by decide +kernel) (by decide +kernel) | 7, _ => tb_at 139 (by decide +kernel) (by decide +kernel) | 8, _ => tb_at 141 (by decide +kernel) (by decide +kernel) | 9, _ => tb_at 143 (by decide +kernel) (by decide +kernel) | 10, _ => tb_at 145 (by decide +kernel) (by decide +kernel) | 11, _ => tb_at 147 (by decide +kernel) (by decide +kernel) | 12, _ => tb_at 149 (by decide +kernel) (by decide +kernel) | 13, _ => tb_at 151 (by decide +kernel) (by decide +kernel) | 14, _ => tb_at 153 (by decide +kernel) (by decide +kernel) | k + 15, h => absurd h (by omega))
theorem inX6 : ∀ w ∈ wsX60, w ∈ TB := by
  intro w h
  obtain ⟨k, hk, rfl⟩ := List.mem_map.mp h
  have hk2 : k < 14 := List.mem_range.mp hk
  exact (match k, hk2 with | 0, _ => tb_at 264 (by decide +kernel) (by decide +kernel) | 1, _ => tb_at 266 (by decide +kernel) (by decide +kernel) | 2, _ => tb_at 268 (by decide +kernel) (by decide +kernel) | 3, _ => tb_at 270 (by decide +kernel) (by decide +kernel) | 4, _ => tb_at 272 (by decide +kernel) (by decide +kernel) | 5, _ => tb_at 274 (by decide +kernel) (by decide +kernel) | 6, _ => tb_at 276 (by decide +kernel) (by decide +kernel) | 7, _ => tb_at 278 (by decide +kernel) (by decide +kernel) | 8, _ => tb_at 280 (by decide +kernel) (by decide +kernel) | 9, _ => tb_at 282 (by decide +kernel) (by decide +kernel) | 10, _ => tb_at 284 (by decide +kernel) (by decide +kernel) | 11, _ => tb_at 286 (by decide +kernel) (by decide +kernel) | 12, _ => tb_at 288 (by decide +kernel) (by decide +kernel) | 13, _ => tb_at 290 (by decide +kernel) (by decide +kernel) | k + 14, h => absurd h (by omega))
theorem inX7 : ∀ w ∈ wsX70, w ∈ TB := by
  intro w h
  obtain ⟨k, hk, rfl⟩ := List.mem_map.mp h
  have hk2 : k < 28 := List.mem_range.mp hk
  exact (match k, hk2 with | 0, _ => tb_at 817 (by decide +kernel) (by decide +kernel) | 1, _ => tb_at 819 (by decide +kernel) (by decide +kernel) | 2, _ => tb_at 821 (by decide +kernel) (by decide +kernel) | 3, _ => tb_at 823 (by decide +kernel) (by decide +kernel) | 4, _ => tb_at 825 (by decide +kernel) (by decide +kernel) | 5, _ => tb_at 827 (by decide +kernel) (by decide +kernel) | 6, _ => tb_at 829 (by decide +kernel) (by decide +kernel) | 7, _ => tb_at 831 (by decide +kernel) (by decide +kernel) | 8, _ => tb_at 833 (by decide +kernel) (by decide +kernel) | 9, _ => tb_at 835 (by decide +kernel) (by decide +kernel) | 10, _ => tb_at 837 (by decide +kernel) (by decide +kernel) | 11, _ => tb_at 839 (by decide +kernel) (by decide +kernel) | 12, _ => tb_at 841 (by decide +kernel) (by decide +kernel) | 13, _ => tb_at 843 (by decide +kernel) (by decide +kernel) | 14, _ => tb_at 845 (by decide +kernel) (by decide +kernel) | 15, _ => tb_at 847 (by decide +kernel) (by decide +kernel) | 16, _ => tb_at 849 (by decide +kernel) (by decide +kernel) | 17, _ => tb_at 851 (by decide +kernel) (by decide +kernel) | 18, _ => tb_at 853 (by decide +kernel) (by decide +kernel) | 19, _ => tb_at 855 (by decide +kernel) (by decide +kernel) | 20, _ => tb_at 857 (by decide +kernel) (by decide +kernel) | 21, _ => tb_at 859 (by decide +kernel) (by decide +kernel) | 22, _ => tb_at 861 (by decide +kernel) (by decide +kernel) | 23, _ => tb_at 863 (by decide +kernel) (by decide +kernel) | 24, _ => tb_at 865 (by decide +kernel) (by decide +kernel) | 25, _ => tb_at 867 (by decide +kernel) (by decide +kernel) | 26, _ => tb_at 869 (by decide +kernel) (by decide +kernel) | 27, _ => tb_at 871 (by decide +kernel) (by decide +kernel) | k + 28, h => absurd h (by omega))
end
