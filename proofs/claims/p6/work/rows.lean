section
-- ===== PART A: goes FIRST, ahead of the names: the tables' words, and 'selects' of the private methods out of them =====
/-- a private method of a class that the tables say can be made, by its rows of tables_1 -/
def lw_okq (q : MethodName × Nat) : Prop := (q.1.cls ≠ "java/lang/invoke/MethodHandle" ∧ q.1.cls ≠ "java/lang/invoke/VarHandle") ∧ Cond.instantiable q.1.cls q.2 ∈ tables_1 ∧ Cond.privateMethod q.1 ∈ tables_1 ∧ Cond.instanceMethod q.1 ∈ tables_1
theorem lw_p0 : lw_okq (⟨"PeatBog", "lawOn", "(I)LPeatBog$Law;"⟩, 15) := ⟨⟨by decide +kernel, by decide +kernel⟩, List.mem_of_getElem? (i := 17) (by decide +kernel), List.mem_of_getElem? (i := 340) (by decide +kernel), List.mem_of_getElem? (i := 341) (by decide +kernel)⟩
theorem lw_p1 : lw_okq (⟨"PeatBog$Law", "runsOn", "(II)Z"⟩, 15) := ⟨⟨by decide +kernel, by decide +kernel⟩, List.mem_of_getElem? (i := 30) (by decide +kernel), List.mem_of_getElem? (i := 349) (by decide +kernel), List.mem_of_getElem? (i := 350) (by decide +kernel)⟩
theorem lw_p2 : lw_okq (⟨"PeatBog", "isStack", "(I)Z"⟩, 15) := ⟨⟨by decide +kernel, by decide +kernel⟩, List.mem_of_getElem? (i := 17) (by decide +kernel), List.mem_of_getElem? (i := 393) (by decide +kernel), List.mem_of_getElem? (i := 394) (by decide +kernel)⟩
theorem lw_p3 : lw_okq (⟨"PeatBog", "applyLaw", "(LPeatBog$Law;)V"⟩, 15) := ⟨⟨by decide +kernel, by decide +kernel⟩, List.mem_of_getElem? (i := 17) (by decide +kernel), List.mem_of_getElem? (i := 443) (by decide +kernel), List.mem_of_getElem? (i := 444) (by decide +kernel)⟩
theorem lw_p4 : lw_okq (⟨"PeatBog$Law", "allHold", "(ILPeatBog$Stack;I)Z"⟩, 15) := ⟨⟨by decide +kernel, by decide +kernel⟩, List.mem_of_getElem? (i := 30) (by decide +kernel), List.mem_of_getElem? (i := 451) (by decide +kernel), List.mem_of_getElem? (i := 452) (by decide +kernel)⟩
theorem lw_p5 : lw_okq (⟨"PeatBog$Law", "holds", "(ILPeatBog$Stack;I)Z"⟩, 15) := ⟨⟨by decide +kernel, by decide +kernel⟩, List.mem_of_getElem? (i := 30) (by decide +kernel), List.mem_of_getElem? (i := 455) (by decide +kernel), List.mem_of_getElem? (i := 456) (by decide +kernel)⟩
theorem lw_p6 : lw_okq (⟨"PeatBog$Tokens", "wordCode", "(II)I"⟩, 6) := ⟨⟨by decide +kernel, by decide +kernel⟩, List.mem_of_getElem? (i := 137) (by decide +kernel), List.mem_of_getElem? (i := 506) (by decide +kernel), List.mem_of_getElem? (i := 507) (by decide +kernel)⟩
theorem lw_p7 : lw_okq (⟨"PeatBog$Tokens", "spells", "(Ljava/lang/String;II)Z"⟩, 6) := ⟨⟨by decide +kernel, by decide +kernel⟩, List.mem_of_getElem? (i := 137) (by decide +kernel), List.mem_of_getElem? (i := 528) (by decide +kernel), List.mem_of_getElem? (i := 529) (by decide +kernel)⟩
theorem lw_p8 : lw_okq (⟨"PeatBog$Tokens", "keep", "(III)V"⟩, 6) := ⟨⟨by decide +kernel, by decide +kernel⟩, List.mem_of_getElem? (i := 137) (by decide +kernel), List.mem_of_getElem? (i := 580) (by decide +kernel), List.mem_of_getElem? (i := 581) (by decide +kernel)⟩
theorem lw_p9 : lw_okq (⟨"PeatBog$Tokens", "keepNumber", "(II)V"⟩, 6) := ⟨⟨by decide +kernel, by decide +kernel⟩, List.mem_of_getElem? (i := 137) (by decide +kernel), List.mem_of_getElem? (i := 587) (by decide +kernel), List.mem_of_getElem? (i := 588) (by decide +kernel)⟩
theorem lw_p10 : lw_okq (⟨"PeatBog$LawReader", "readStatement", "(LPeatBog$Law;)Z"⟩, 2) := ⟨⟨by decide +kernel, by decide +kernel⟩, List.mem_of_getElem? (i := 131) (by decide +kernel), List.mem_of_getElem? (i := 601) (by decide +kernel), List.mem_of_getElem? (i := 602) (by decide +kernel)⟩
theorem lw_p11 : lw_okq (⟨"PeatBog$LawReader", "take", "(I)Z"⟩, 2) := ⟨⟨by decide +kernel, by decide +kernel⟩, List.mem_of_getElem? (i := 131) (by decide +kernel), List.mem_of_getElem? (i := 605) (by decide +kernel), List.mem_of_getElem? (i := 606) (by decide +kernel)⟩
theorem lw_p12 : lw_okq (⟨"PeatBog$LawReader", "takeNumber", "()I"⟩, 2) := ⟨⟨by decide +kernel, by decide +kernel⟩, List.mem_of_getElem? (i := 131) (by decide +kernel), List.mem_of_getElem? (i := 609) (by decide +kernel), List.mem_of_getElem? (i := 610) (by decide +kernel)⟩
theorem lw_p13 : lw_okq (⟨"PeatBog$LawReader", "readClosing", "(LPeatBog$Law;)Z"⟩, 2) := ⟨⟨by decide +kernel, by decide +kernel⟩, List.mem_of_getElem? (i := 131) (by decide +kernel), List.mem_of_getElem? (i := 617) (by decide +kernel), List.mem_of_getElem? (i := 618) (by decide +kernel)⟩
theorem lw_p14 : lw_okq (⟨"PeatBog$LawReader", "readRule", "(LPeatBog$Law;)Z"⟩, 2) := ⟨⟨by decide +kernel, by decide +kernel⟩, List.mem_of_getElem? (i := 131) (by decide +kernel), List.mem_of_getElem? (i := 625) (by decide +kernel), List.mem_of_getElem? (i := 626) (by decide +kernel)⟩
theorem lw_p15 : lw_okq (⟨"PeatBog$LawReader", "readTest", "(LPeatBog$Law;I)Z"⟩, 2) := ⟨⟨by decide +kernel, by decide +kernel⟩, List.mem_of_getElem? (i := 131) (by decide +kernel), List.mem_of_getElem? (i := 629) (by decide +kernel), List.mem_of_getElem? (i := 630) (by decide +kernel)⟩
def lw_privs_1 : List (MethodName × Nat) := [(⟨"PeatBog", "lawOn", "(I)LPeatBog$Law;"⟩, 15), (⟨"PeatBog$Law", "runsOn", "(II)Z"⟩, 15), (⟨"PeatBog", "isStack", "(I)Z"⟩, 15), (⟨"PeatBog", "applyLaw", "(LPeatBog$Law;)V"⟩, 15), (⟨"PeatBog$Law", "allHold", "(ILPeatBog$Stack;I)Z"⟩, 15), (⟨"PeatBog$Law", "holds", "(ILPeatBog$Stack;I)Z"⟩, 15), (⟨"PeatBog$Tokens", "wordCode", "(II)I"⟩, 6), (⟨"PeatBog$Tokens", "spells", "(Ljava/lang/String;II)Z"⟩, 6), (⟨"PeatBog$Tokens", "keep", "(III)V"⟩, 6), (⟨"PeatBog$Tokens", "keepNumber", "(II)V"⟩, 6), (⟨"PeatBog$LawReader", "readStatement", "(LPeatBog$Law;)Z"⟩, 2), (⟨"PeatBog$LawReader", "take", "(I)Z"⟩, 2), (⟨"PeatBog$LawReader", "takeNumber", "()I"⟩, 2), (⟨"PeatBog$LawReader", "readClosing", "(LPeatBog$Law;)Z"⟩, 2), (⟨"PeatBog$LawReader", "readRule", "(LPeatBog$Law;)Z"⟩, 2), (⟨"PeatBog$LawReader", "readTest", "(LPeatBog$Law;I)Z"⟩, 2)]
theorem lw_r1 : ∀ q ∈ lw_privs_1, lw_okq q := List.forall_mem_cons.mpr ⟨lw_p0, List.forall_mem_cons.mpr ⟨lw_p1, List.forall_mem_cons.mpr ⟨lw_p2, List.forall_mem_cons.mpr ⟨lw_p3, List.forall_mem_cons.mpr ⟨lw_p4, List.forall_mem_cons.mpr ⟨lw_p5, List.forall_mem_cons.mpr ⟨lw_p6, List.forall_mem_cons.mpr ⟨lw_p7, List.forall_mem_cons.mpr ⟨lw_p8, List.forall_mem_cons.mpr ⟨lw_p9, List.forall_mem_cons.mpr ⟨lw_p10, List.forall_mem_cons.mpr ⟨lw_p11, List.forall_mem_cons.mpr ⟨lw_p12, List.forall_mem_cons.mpr ⟨lw_p13, List.forall_mem_cons.mpr ⟨lw_p14, List.forall_mem_cons.mpr ⟨lw_p15, fun _ h => absurd h List.not_mem_nil⟩⟩⟩⟩⟩⟩⟩⟩⟩⟩⟩⟩⟩⟩⟩⟩
theorem lw_p16 : lw_okq (⟨"PeatBog$LawReader", "takeOneOf", "(III)I"⟩, 2) := ⟨⟨by decide +kernel, by decide +kernel⟩, List.mem_of_getElem? (i := 131) (by decide +kernel), List.mem_of_getElem? (i := 633) (by decide +kernel), List.mem_of_getElem? (i := 634) (by decide +kernel)⟩
theorem lw_p17 : lw_okq (⟨"PeatBog$Laying", "weigh", "([LPeatBog$Bay;)V"⟩, 8) := ⟨⟨by decide +kernel, by decide +kernel⟩, List.mem_of_getElem? (i := 169) (by decide +kernel), List.mem_of_getElem? (i := 682) (by decide +kernel), List.mem_of_getElem? (i := 683) (by decide +kernel)⟩
theorem lw_p18 : lw_okq (⟨"PeatBog$Laying", "freshWeight", "(II)I"⟩, 8) := ⟨⟨by decide +kernel, by decide +kernel⟩, List.mem_of_getElem? (i := 169) (by decide +kernel), List.mem_of_getElem? (i := 686) (by decide +kernel), List.mem_of_getElem? (i := 687) (by decide +kernel)⟩
theorem lw_p19 : lw_okq (⟨"PeatBog$Laying", "firstChanged", "(I)I"⟩, 8) := ⟨⟨by decide +kernel, by decide +kernel⟩, List.mem_of_getElem? (i := 169) (by decide +kernel), List.mem_of_getElem? (i := 692) (by decide +kernel), List.mem_of_getElem? (i := 693) (by decide +kernel)⟩
theorem lw_p20 : lw_okq (⟨"PeatBog$Laying", "bayIn", "(II)I"⟩, 8) := ⟨⟨by decide +kernel, by decide +kernel⟩, List.mem_of_getElem? (i := 169) (by decide +kernel), List.mem_of_getElem? (i := 696) (by decide +kernel), List.mem_of_getElem? (i := 697) (by decide +kernel)⟩
theorem lw_p21 : lw_okq (⟨"PeatBog$Laying", "layDay", "(II)V"⟩, 8) := ⟨⟨by decide +kernel, by decide +kernel⟩, List.mem_of_getElem? (i := 169) (by decide +kernel), List.mem_of_getElem? (i := 700) (by decide +kernel), List.mem_of_getElem? (i := 701) (by decide +kernel)⟩
theorem lw_p22 : lw_okq (⟨"PeatBog", "weightInStacks", "()I"⟩, 15) := ⟨⟨by decide +kernel, by decide +kernel⟩, List.mem_of_getElem? (i := 17) (by decide +kernel), List.mem_of_getElem? (i := 721) (by decide +kernel), List.mem_of_getElem? (i := 722) (by decide +kernel)⟩
theorem lw_p23 : lw_okq (⟨"PeatBogModel", "four", "(I)V"⟩, 48) := ⟨⟨by decide +kernel, by decide +kernel⟩, List.mem_of_getElem? (i := 725) (by decide +kernel), List.mem_of_getElem? (i := 881) (by decide +kernel), List.mem_of_getElem? (i := 882) (by decide +kernel)⟩
theorem lw_p24 : lw_okq (⟨"PeatBogModel", "blanks", "()V"⟩, 48) := ⟨⟨by decide +kernel, by decide +kernel⟩, List.mem_of_getElem? (i := 725) (by decide +kernel), List.mem_of_getElem? (i := 892) (by decide +kernel), List.mem_of_getElem? (i := 893) (by decide +kernel)⟩
theorem lw_p25 : lw_okq (⟨"PeatBogModel", "statement", "(I)Z"⟩, 48) := ⟨⟨by decide +kernel, by decide +kernel⟩, List.mem_of_getElem? (i := 725) (by decide +kernel), List.mem_of_getElem? (i := 896) (by decide +kernel), List.mem_of_getElem? (i := 897) (by decide +kernel)⟩
theorem lw_p26 : lw_okq (⟨"PeatBogModel", "takes", "(J)Z"⟩, 48) := ⟨⟨by decide +kernel, by decide +kernel⟩, List.mem_of_getElem? (i := 725) (by decide +kernel), List.mem_of_getElem? (i := 901) (by decide +kernel), List.mem_of_getElem? (i := 902) (by decide +kernel)⟩
theorem lw_p27 : lw_okq (⟨"PeatBogModel", "word", "()J"⟩, 48) := ⟨⟨by decide +kernel, by decide +kernel⟩, List.mem_of_getElem? (i := 725) (by decide +kernel), List.mem_of_getElem? (i := 905) (by decide +kernel), List.mem_of_getElem? (i := 906) (by decide +kernel)⟩
theorem lw_p28 : lw_okq (⟨"PeatBogModel", "closing", "(I)Z"⟩, 48) := ⟨⟨by decide +kernel, by decide +kernel⟩, List.mem_of_getElem? (i := 725) (by decide +kernel), List.mem_of_getElem? (i := 909) (by decide +kernel), List.mem_of_getElem? (i := 910) (by decide +kernel)⟩
theorem lw_p29 : lw_okq (⟨"PeatBogModel", "takesNumber", "()Z"⟩, 48) := ⟨⟨by decide +kernel, by decide +kernel⟩, List.mem_of_getElem? (i := 725) (by decide +kernel), List.mem_of_getElem? (i := 913) (by decide +kernel), List.mem_of_getElem? (i := 914) (by decide +kernel)⟩
theorem lw_p30 : lw_okq (⟨"PeatBogModel", "acting", "(I)Z"⟩, 48) := ⟨⟨by decide +kernel, by decide +kernel⟩, List.mem_of_getElem? (i := 725) (by decide +kernel), List.mem_of_getElem? (i := 920) (by decide +kernel), List.mem_of_getElem? (i := 921) (by decide +kernel)⟩
theorem lw_p31 : lw_okq (⟨"PeatBogModel", "test", "(I)Z"⟩, 48) := ⟨⟨by decide +kernel, by decide +kernel⟩, List.mem_of_getElem? (i := 725) (by decide +kernel), List.mem_of_getElem? (i := 924) (by decide +kernel), List.mem_of_getElem? (i := 925) (by decide +kernel)⟩
def lw_privs_2 : List (MethodName × Nat) := [(⟨"PeatBog$LawReader", "takeOneOf", "(III)I"⟩, 2), (⟨"PeatBog$Laying", "weigh", "([LPeatBog$Bay;)V"⟩, 8), (⟨"PeatBog$Laying", "freshWeight", "(II)I"⟩, 8), (⟨"PeatBog$Laying", "firstChanged", "(I)I"⟩, 8), (⟨"PeatBog$Laying", "bayIn", "(II)I"⟩, 8), (⟨"PeatBog$Laying", "layDay", "(II)V"⟩, 8), (⟨"PeatBog", "weightInStacks", "()I"⟩, 15), (⟨"PeatBogModel", "four", "(I)V"⟩, 48), (⟨"PeatBogModel", "blanks", "()V"⟩, 48), (⟨"PeatBogModel", "statement", "(I)Z"⟩, 48), (⟨"PeatBogModel", "takes", "(J)Z"⟩, 48), (⟨"PeatBogModel", "word", "()J"⟩, 48), (⟨"PeatBogModel", "closing", "(I)Z"⟩, 48), (⟨"PeatBogModel", "takesNumber", "()Z"⟩, 48), (⟨"PeatBogModel", "acting", "(I)Z"⟩, 48), (⟨"PeatBogModel", "test", "(I)Z"⟩, 48)]
theorem lw_r2 : ∀ q ∈ lw_privs_2, lw_okq q := List.forall_mem_cons.mpr ⟨lw_p16, List.forall_mem_cons.mpr ⟨lw_p17, List.forall_mem_cons.mpr ⟨lw_p18, List.forall_mem_cons.mpr ⟨lw_p19, List.forall_mem_cons.mpr ⟨lw_p20, List.forall_mem_cons.mpr ⟨lw_p21, List.forall_mem_cons.mpr ⟨lw_p22, List.forall_mem_cons.mpr ⟨lw_p23, List.forall_mem_cons.mpr ⟨lw_p24, List.forall_mem_cons.mpr ⟨lw_p25, List.forall_mem_cons.mpr ⟨lw_p26, List.forall_mem_cons.mpr ⟨lw_p27, List.forall_mem_cons.mpr ⟨lw_p28, List.forall_mem_cons.mpr ⟨lw_p29, List.forall_mem_cons.mpr ⟨lw_p30, List.forall_mem_cons.mpr ⟨lw_p31, fun _ h => absurd h List.not_mem_nil⟩⟩⟩⟩⟩⟩⟩⟩⟩⟩⟩⟩⟩⟩⟩⟩
theorem lw_p32 : lw_okq (⟨"PeatBogModel", "isClosed", "(II)Z"⟩, 48) := ⟨⟨by decide +kernel, by decide +kernel⟩, List.mem_of_getElem? (i := 725) (by decide +kernel), List.mem_of_getElem? (i := 946) (by decide +kernel), List.mem_of_getElem? (i := 947) (by decide +kernel)⟩
theorem lw_p33 : lw_okq (⟨"PeatBogModel", "inForce", "(I)I"⟩, 48) := ⟨⟨by decide +kernel, by decide +kernel⟩, List.mem_of_getElem? (i := 725) (by decide +kernel), List.mem_of_getElem? (i := 950) (by decide +kernel), List.mem_of_getElem? (i := 951) (by decide +kernel)⟩
theorem lw_p34 : lw_okq (⟨"PeatBogModel", "lastOf", "(III)I"⟩, 48) := ⟨⟨by decide +kernel, by decide +kernel⟩, List.mem_of_getElem? (i := 725) (by decide +kernel), List.mem_of_getElem? (i := 957) (by decide +kernel), List.mem_of_getElem? (i := 958) (by decide +kernel)⟩
theorem lw_p35 : lw_okq (⟨"PeatBogModel", "isStack", "(I)Z"⟩, 48) := ⟨⟨by decide +kernel, by decide +kernel⟩, List.mem_of_getElem? (i := 725) (by decide +kernel), List.mem_of_getElem? (i := 995) (by decide +kernel), List.mem_of_getElem? (i := 996) (by decide +kernel)⟩
theorem lw_p36 : lw_okq (⟨"PeatBogModel", "burns", "(I)Z"⟩, 48) := ⟨⟨by decide +kernel, by decide +kernel⟩, List.mem_of_getElem? (i := 725) (by decide +kernel), List.mem_of_getElem? (i := 999) (by decide +kernel), List.mem_of_getElem? (i := 1000) (by decide +kernel)⟩
theorem lw_p37 : lw_okq (⟨"PeatBogModel", "dries", "(IIII)V"⟩, 48) := ⟨⟨by decide +kernel, by decide +kernel⟩, List.mem_of_getElem? (i := 725) (by decide +kernel), List.mem_of_getElem? (i := 1019) (by decide +kernel), List.mem_of_getElem? (i := 1020) (by decide +kernel)⟩
theorem lw_p38 : lw_okq (⟨"PeatBogModel", "heats", "(II)V"⟩, 48) := ⟨⟨by decide +kernel, by decide +kernel⟩, List.mem_of_getElem? (i := 725) (by decide +kernel), List.mem_of_getElem? (i := 1024) (by decide +kernel), List.mem_of_getElem? (i := 1025) (by decide +kernel)⟩
theorem lw_p39 : lw_okq (⟨"PeatBogModel", "act", "(II)I"⟩, 48) := ⟨⟨by decide +kernel, by decide +kernel⟩, List.mem_of_getElem? (i := 725) (by decide +kernel), List.mem_of_getElem? (i := 1028) (by decide +kernel), List.mem_of_getElem? (i := 1029) (by decide +kernel)⟩
theorem lw_p40 : lw_okq (⟨"PeatBogModel", "layingOf", "(I)I"⟩, 48) := ⟨⟨by decide +kernel, by decide +kernel⟩, List.mem_of_getElem? (i := 725) (by decide +kernel), List.mem_of_getElem? (i := 1044) (by decide +kernel), List.mem_of_getElem? (i := 1045) (by decide +kernel)⟩
def lw_privs_3 : List (MethodName × Nat) := [(⟨"PeatBogModel", "isClosed", "(II)Z"⟩, 48), (⟨"PeatBogModel", "inForce", "(I)I"⟩, 48), (⟨"PeatBogModel", "lastOf", "(III)I"⟩, 48), (⟨"PeatBogModel", "isStack", "(I)Z"⟩, 48), (⟨"PeatBogModel", "burns", "(I)Z"⟩, 48), (⟨"PeatBogModel", "dries", "(IIII)V"⟩, 48), (⟨"PeatBogModel", "heats", "(II)V"⟩, 48), (⟨"PeatBogModel", "act", "(II)I"⟩, 48), (⟨"PeatBogModel", "layingOf", "(I)I"⟩, 48)]
theorem lw_r3 : ∀ q ∈ lw_privs_3, lw_okq q := List.forall_mem_cons.mpr ⟨lw_p32, List.forall_mem_cons.mpr ⟨lw_p33, List.forall_mem_cons.mpr ⟨lw_p34, List.forall_mem_cons.mpr ⟨lw_p35, List.forall_mem_cons.mpr ⟨lw_p36, List.forall_mem_cons.mpr ⟨lw_p37, List.forall_mem_cons.mpr ⟨lw_p38, List.forall_mem_cons.mpr ⟨lw_p39, List.forall_mem_cons.mpr ⟨lw_p40, fun _ h => absurd h List.not_mem_nil⟩⟩⟩⟩⟩⟩⟩⟩⟩
def lw_privs : List (MethodName × Nat) := lw_privs_1 ++ (lw_privs_2 ++ (lw_privs_3))
def lw_tbl : List Cond := k2_sels lw_privs ++ tables_1
theorem lw_privs_ok : ∀ q ∈ lw_privs, lw_okq q := by
  show ∀ q ∈ lw_privs_1 ++ (lw_privs_2 ++ (lw_privs_3)), lw_okq q
  exact List.forall_mem_append.mpr ⟨lw_r1, List.forall_mem_append.mpr ⟨lw_r2, lw_r3⟩⟩
end
section
def RX0 : String := "PeatBog$Bay"
def TX0 : u_T := fun k => match k with
  | 0 => ("PeatBog$Bay", "depthLeft", "I", false)
  | 1 => ("PeatBog$Bay", "how", "I", false)
  | 2 => ("PeatBog$Bay", "weight", "I", false)
  | 3 => ("PeatBog$Bay", "wet", "I", false)
  | 4 => ("PeatBog$Bay", "probes", "I", false)
  | 5 => ("PeatBog$Bay", "greatestProbe", "I", false)
  | _ => ("PeatBog$Bay", "gatheredEver", "I", false)
def tyX0 : Nat → FieldType := fun k => match k with
  | 0 => .int
  | 1 => .int
  | 2 => .int
  | 3 => .int
  | 4 => .int
  | 5 => .int
  | _ => .int
abbrev wsX00 : List Cond := u_ws RX0 TX0 7
theorem nmX0 : ∀ a, a < 7 → ∀ b, b < 7 → a ≠ b → (TX0 a).2.1 ≠ (TX0 b).2.1 := by decide +kernel
theorem tyX0_ok : ∀ k, k < 7 → parseFieldDescriptor (TX0 k).2.2.1 = some (tyX0 k) := by decide +kernel
abbrev cX0_init : ByteArray := prog_2_method_1_code
def yX0_init : MethodName := ⟨RX0, "<init>", "()V"⟩
abbrev cX0_lies : ByteArray := prog_2_method_2_code
def yX0_lies : MethodName := ⟨RX0, "lies", "()Z"⟩
abbrev cX0_loosen : ByteArray := prog_2_method_3_code
def yX0_loosen : MethodName := ⟨RX0, "loosen", "(I)V"⟩
abbrev cX0_takesProbe : ByteArray := prog_2_method_4_code
def yX0_takesProbe : MethodName := ⟨RX0, "takesProbe", "()Z"⟩
abbrev cX0_addProbe : ByteArray := prog_2_method_5_code
def yX0_addProbe : MethodName := ⟨RX0, "addProbe", "(I)I"⟩
abbrev cX0_clear : ByteArray := prog_2_method_6_code
def yX0_clear : MethodName := ⟨RX0, "clear", "()V"⟩
abbrev cX0_weather : ByteArray := prog_2_method_7_code
def yX0_weather : MethodName := ⟨RX0, "weather", "(III)V"⟩
abbrev cX0_tellOf : ByteArray := prog_2_method_8_code
def yX0_tellOf : MethodName := ⟨RX0, "tellOf", "(I)I"⟩
def RX1 : String := "PeatBog$Law"
def TX1 : u_T := fun k => match k with
  | 0 => ("PeatBog$Law", "number", "I", false)
  | 1 => ("PeatBog$Law", "since", "I", false)
  | 2 => ("PeatBog$Law", "limit", "I", false)
  | 3 => ("PeatBog$Law", "depthKept", "I", false)
  | 4 => ("PeatBog$Law", "closings", "I", false)
  | 5 => ("PeatBog$Law", "firstBay", "[I", true)
  | 6 => ("PeatBog$Law", "lastBay", "[I", true)
  | 7 => ("PeatBog$Law", "firstDay", "[I", true)
  | 8 => ("PeatBog$Law", "lastDay", "[I", true)
  | 9 => ("PeatBog$Law", "rules", "I", false)
  | 10 => ("PeatBog$Law", "testsOfRule", "[I", true)
  | 11 => ("PeatBog$Law", "deedOfRule", "[I", true)
  | 12 => ("PeatBog$Law", "tested", "[I", true)
  | 13 => ("PeatBog$Law", "sign", "[I", true)
  | _ => ("PeatBog$Law", "bound", "[I", true)
def tyX1 : Nat → FieldType := fun k => match k with
  | 0 => .int
  | 1 => .int
  | 2 => .int
  | 3 => .int
  | 4 => .int
  | 5 => .array .int
  | 6 => .array .int
  | 7 => .array .int
  | 8 => .array .int
  | 9 => .int
  | 10 => .array .int
  | 11 => .array .int
  | 12 => .array .int
  | 13 => .array .int
  | _ => .array .int
abbrev wsX10 : List Cond := u_ws RX1 TX1 15
theorem nmX1 : ∀ a, a < 15 → ∀ b, b < 15 → a ≠ b → (TX1 a).2.1 ≠ (TX1 b).2.1 := by decide +kernel
theorem tyX1_ok : ∀ k, k < 15 → parseFieldDescriptor (TX1 k).2.2.1 = some (tyX1 k) := by decide +kernel
abbrev cX1_init : ByteArray := prog_3_method_1_code
def yX1_init : MethodName := ⟨RX1, "<init>", "()V"⟩
abbrev cX1_begin : ByteArray := prog_3_method_2_code
def yX1_begin : MethodName := ⟨RX1, "begin", "(II)V"⟩
abbrev cX1_addClosing : ByteArray := prog_3_method_3_code
def yX1_addClosing : MethodName := ⟨RX1, "addClosing", "(IIII)V"⟩
abbrev cX1_putTest : ByteArray := prog_3_method_4_code
def yX1_putTest : MethodName := ⟨RX1, "putTest", "(IIII)V"⟩
abbrev cX1_addRule : ByteArray := prog_3_method_5_code
def yX1_addRule : MethodName := ⟨RX1, "addRule", "(II)V"⟩
abbrev cX1_closes : ByteArray := prog_3_method_6_code
def yX1_closes : MethodName := ⟨RX1, "closes", "(II)Z"⟩
abbrev cX1_runsOn : ByteArray := prog_3_method_7_code
def yX1_runsOn : MethodName := ⟨RX1, "runsOn", "(II)Z"⟩
abbrev cX1_deedFor : ByteArray := prog_3_method_8_code
def yX1_deedFor : MethodName := ⟨RX1, "deedFor", "(LPeatBog$Stack;I)I"⟩
abbrev cX1_allHold : ByteArray := prog_3_method_9_code
def yX1_allHold : MethodName := ⟨RX1, "allHold", "(ILPeatBog$Stack;I)Z"⟩
abbrev cX1_holds : ByteArray := prog_3_method_10_code
def yX1_holds : MethodName := ⟨RX1, "holds", "(ILPeatBog$Stack;I)Z"⟩
abbrev cX1_valueOf : ByteArray := prog_3_method_11_code
def yX1_valueOf : MethodName := ⟨RX1, "valueOf", "(ILPeatBog$Stack;I)I"⟩
def RX2 : String := "PeatBog$LawReader"
def TX2 : u_T := fun k => match k with
  | 0 => ("PeatBog$LawReader", "tokens", "LPeatBog$Tokens;", true)
  | _ => ("PeatBog$LawReader", "next", "I", false)
def tyX2 : Nat → FieldType := fun k => match k with
  | 0 => .object "PeatBog$Tokens"
  | _ => .int
abbrev wsX20 : List Cond := u_ws RX2 TX2 2
theorem nmX2 : ∀ a, a < 2 → ∀ b, b < 2 → a ≠ b → (TX2 a).2.1 ≠ (TX2 b).2.1 := by decide +kernel
theorem tyX2_ok : ∀ k, k < 2 → parseFieldDescriptor (TX2 k).2.2.1 = some (tyX2 k) := by decide +kernel
abbrev cX2_init : ByteArray := prog_4_method_1_code
def yX2_init : MethodName := ⟨RX2, "<init>", "(LPeatBog$Tape;)V"⟩
abbrev cX2_readText : ByteArray := prog_4_method_2_code
def yX2_readText : MethodName := ⟨RX2, "readText", "(ILPeatBog$Law;)I"⟩
abbrev cX2_readStatement : ByteArray := prog_4_method_3_code
def yX2_readStatement : MethodName := ⟨RX2, "readStatement", "(LPeatBog$Law;)Z"⟩
abbrev cX2_readClosing : ByteArray := prog_4_method_4_code
def yX2_readClosing : MethodName := ⟨RX2, "readClosing", "(LPeatBog$Law;)Z"⟩
abbrev cX2_readRule : ByteArray := prog_4_method_5_code
def yX2_readRule : MethodName := ⟨RX2, "readRule", "(LPeatBog$Law;)Z"⟩
abbrev cX2_readTest : ByteArray := prog_4_method_6_code
def yX2_readTest : MethodName := ⟨RX2, "readTest", "(LPeatBog$Law;I)Z"⟩
abbrev cX2_take : ByteArray := prog_4_method_7_code
def yX2_take : MethodName := ⟨RX2, "take", "(I)Z"⟩
abbrev cX2_takeOneOf : ByteArray := prog_4_method_8_code
def yX2_takeOneOf : MethodName := ⟨RX2, "takeOneOf", "(III)I"⟩
abbrev cX2_takeNumber : ByteArray := prog_4_method_9_code
def yX2_takeNumber : MethodName := ⟨RX2, "takeNumber", "()I"⟩
def RX3 : String := "PeatBog$Laying"
def TX3 : u_T := fun k => match k with
  | 0 => ("PeatBog$Laying", "nearWeight", "[I", true)
  | 1 => ("PeatBog$Laying", "weight", "[I", true)
  | 2 => ("PeatBog$Laying", "at", "[I", true)
  | 3 => ("PeatBog$Laying", "gathered", "[I", true)
  | 4 => ("PeatBog$Laying", "sum", "[I", true)
  | 5 => ("PeatBog$Laying", "days", "I", false)
  | 6 => ("PeatBog$Laying", "bestCode", "I", false)
  | _ => ("PeatBog$Laying", "bestSum", "I", false)
def tyX3 : Nat → FieldType := fun k => match k with
  | 0 => .array .int
  | 1 => .array .int
  | 2 => .array .int
  | 3 => .array .int
  | 4 => .array .int
  | 5 => .int
  | 6 => .int
  | _ => .int
abbrev wsX30 : List Cond := u_ws RX3 TX3 8
theorem nmX3 : ∀ a, a < 8 → ∀ b, b < 8 → a ≠ b → (TX3 a).2.1 ≠ (TX3 b).2.1 := by decide +kernel
theorem tyX3_ok : ∀ k, k < 8 → parseFieldDescriptor (TX3 k).2.2.1 = some (tyX3 k) := by decide +kernel
abbrev cX3_init : ByteArray := prog_5_method_1_code
def yX3_init : MethodName := ⟨RX3, "<init>", "()V"⟩
abbrev cX3_search : ByteArray := prog_5_method_2_code
def yX3_search : MethodName := ⟨RX3, "search", "([LPeatBog$Bay;II)V"⟩
abbrev cX3_bestBay : ByteArray := prog_5_method_3_code
def yX3_bestBay : MethodName := ⟨RX3, "bestBay", "(I)I"⟩
abbrev cX3_weigh : ByteArray := prog_5_method_4_code
def yX3_weigh : MethodName := ⟨RX3, "weigh", "([LPeatBog$Bay;)V"⟩
abbrev cX3_bayIn : ByteArray := prog_5_method_5_code
def yX3_bayIn : MethodName := ⟨RX3, "bayIn", "(II)I"⟩
abbrev cX3_firstChanged : ByteArray := prog_5_method_6_code
def yX3_firstChanged : MethodName := ⟨RX3, "firstChanged", "(I)I"⟩
abbrev cX3_layDay : ByteArray := prog_5_method_7_code
def yX3_layDay : MethodName := ⟨RX3, "layDay", "(II)V"⟩
abbrev cX3_freshWeight : ByteArray := prog_5_method_8_code
def yX3_freshWeight : MethodName := ⟨RX3, "freshWeight", "(II)I"⟩
abbrev cX3_nearBits : ByteArray := prog_5_method_9_code
def yX3_nearBits : MethodName := ⟨RX3, "nearBits", "(I)I"⟩
def RX4 : String := "PeatBog$PowerHouse"
def TX4 : u_T := fun k => match k with
  | 0 => ("PeatBog$PowerHouse", "wanted", "I", false)
  | 1 => ("PeatBog$PowerHouse", "store", "I", false)
  | 2 => ("PeatBog$PowerHouse", "tookEver", "I", false)
  | 3 => ("PeatBog$PowerHouse", "lackedEver", "I", false)
  | _ => ("PeatBog$PowerHouse", "lackedLast", "I", false)
def tyX4 : Nat → FieldType := fun k => match k with
  | 0 => .int
  | 1 => .int
  | 2 => .int
  | 3 => .int
  | _ => .int
abbrev wsX40 : List Cond := u_ws RX4 TX4 5
theorem nmX4 : ∀ a, a < 5 → ∀ b, b < 5 → a ≠ b → (TX4 a).2.1 ≠ (TX4 b).2.1 := by decide +kernel
theorem tyX4_ok : ∀ k, k < 5 → parseFieldDescriptor (TX4 k).2.2.1 = some (tyX4 k) := by decide +kernel
abbrev cX4_init : ByteArray := prog_6_method_1_code
def yX4_init : MethodName := ⟨RX4, "<init>", "()V"⟩
abbrev cX4_takeWanted : ByteArray := prog_6_method_2_code
def yX4_takeWanted : MethodName := ⟨RX4, "takeWanted", "([LPeatBog$Stack;I)V"⟩
def RX5 : String := "PeatBog$Stack"
def TX5 : u_T := fun k => match k with
  | 0 => ("PeatBog$Stack", "weight", "I", false)
  | 1 => ("PeatBog$Stack", "wet", "I", false)
  | 2 => ("PeatBog$Stack", "heat", "I", false)
  | 3 => ("PeatBog$Stack", "heatRead", "I", false)
  | 4 => ("PeatBog$Stack", "burns", "Z", false)
  | 5 => ("PeatBog$Stack", "begun", "I", false)
  | 6 => ("PeatBog$Stack", "burnsSince", "I", false)
  | 7 => ("PeatBog$Stack", "turned", "I", false)
  | _ => ("PeatBog$Stack", "sent", "Z", false)
def tyX5 : Nat → FieldType := fun k => match k with
  | 0 => .int
  | 1 => .int
  | 2 => .int
  | 3 => .int
  | 4 => .boolean
  | 5 => .int
  | 6 => .int
  | 7 => .int
  | _ => .boolean
abbrev wsX50 : List Cond := u_ws RX5 TX5 9
theorem nmX5 : ∀ a, a < 9 → ∀ b, b < 9 → a ≠ b → (TX5 a).2.1 ≠ (TX5 b).2.1 := by decide +kernel
theorem tyX5_ok : ∀ k, k < 9 → parseFieldDescriptor (TX5 k).2.2.1 = some (tyX5 k) := by decide +kernel
abbrev cX5_init : ByteArray := prog_7_method_1_code
def yX5_init : MethodName := ⟨RX5, "<init>", "()V"⟩
abbrev cX5_takesPeat : ByteArray := prog_7_method_2_code
def yX5_takesPeat : MethodName := ⟨RX5, "takesPeat", "()Z"⟩
abbrev cX5_add : ByteArray := prog_7_method_3_code
def yX5_add : MethodName := ⟨RX5, "add", "(II)V"⟩
abbrev cX5_glow : ByteArray := prog_7_method_4_code
def yX5_glow : MethodName := ⟨RX5, "glow", "(II)I"⟩
abbrev cX5_turnOver : ByteArray := prog_7_method_5_code
def yX5_turnOver : MethodName := ⟨RX5, "turnOver", "()V"⟩
abbrev cX5_sendAway : ByteArray := prog_7_method_6_code
def yX5_sendAway : MethodName := ⟨RX5, "sendAway", "()I"⟩
abbrev cX5_tellOf : ByteArray := prog_7_method_7_code
def yX5_tellOf : MethodName := ⟨RX5, "tellOf", "(I)I"⟩
def RX6 : String := "PeatBog$Tape"
def TX6 : u_T := fun k => match k with
  | 0 => ("PeatBog$Tape", "bytes", "[B", true)
  | _ => ("PeatBog$Tape", "length", "I", false)
def tyX6 : Nat → FieldType := fun k => match k with
  | 0 => .array .byte
  | _ => .int
abbrev wsX60 : List Cond := u_ws RX6 TX6 2
theorem nmX6 : ∀ a, a < 2 → ∀ b, b < 2 → a ≠ b → (TX6 a).2.1 ≠ (TX6 b).2.1 := by decide +kernel
theorem tyX6_ok : ∀ k, k < 2 → parseFieldDescriptor (TX6 k).2.2.1 = some (tyX6 k) := by decide +kernel
abbrev cX6_init : ByteArray := prog_8_method_1_code
def yX6_init : MethodName := ⟨RX6, "<init>", "()V"⟩
abbrev cX6_holdsMore : ByteArray := prog_8_method_2_code
def yX6_holdsMore : MethodName := ⟨RX6, "holdsMore", "(I)Z"⟩
abbrev cX6_add : ByteArray := prog_8_method_3_code
def yX6_add : MethodName := ⟨RX6, "add", "(I)V"⟩
abbrev cX6_at : ByteArray := prog_8_method_4_code
def yX6_at : MethodName := ⟨RX6, "at", "(I)I"⟩
def RX7 : String := "PeatBog$Tokens"
def TX7 : u_T := fun k => match k with
  | 0 => ("PeatBog$Tokens", "tape", "LPeatBog$Tape;", true)
  | 1 => ("PeatBog$Tokens", "count", "I", false)
  | 2 => ("PeatBog$Tokens", "codes", "[I", true)
  | 3 => ("PeatBog$Tokens", "places", "[I", true)
  | 4 => ("PeatBog$Tokens", "values", "[I", true)
  | _ => ("PeatBog$Tokens", "textLength", "I", false)
def tyX7 : Nat → FieldType := fun k => match k with
  | 0 => .object "PeatBog$Tape"
  | 1 => .int
  | 2 => .array .int
  | 3 => .array .int
  | 4 => .array .int
  | _ => .int
abbrev wsX70 : List Cond := u_ws RX7 TX7 6
theorem nmX7 : ∀ a, a < 6 → ∀ b, b < 6 → a ≠ b → (TX7 a).2.1 ≠ (TX7 b).2.1 := by decide +kernel
theorem tyX7_ok : ∀ k, k < 6 → parseFieldDescriptor (TX7 k).2.2.1 = some (tyX7 k) := by decide +kernel
abbrev cX7_init : ByteArray := prog_9_method_1_code
def yX7_init : MethodName := ⟨RX7, "<init>", "(LPeatBog$Tape;)V"⟩
abbrev cX7_cut : ByteArray := prog_9_method_2_code
def yX7_cut : MethodName := ⟨RX7, "cut", "(I)V"⟩
abbrev cX7_codeAt : ByteArray := prog_9_method_3_code
def yX7_codeAt : MethodName := ⟨RX7, "codeAt", "(I)I"⟩
abbrev cX7_placeAt : ByteArray := prog_9_method_4_code
def yX7_placeAt : MethodName := ⟨RX7, "placeAt", "(I)I"⟩
abbrev cX7_valueAt : ByteArray := prog_9_method_5_code
def yX7_valueAt : MethodName := ⟨RX7, "valueAt", "(I)I"⟩
abbrev cX7_keep : ByteArray := prog_9_method_6_code
def yX7_keep : MethodName := ⟨RX7, "keep", "(III)V"⟩
abbrev cX7_keepNumber : ByteArray := prog_9_method_7_code
def yX7_keepNumber : MethodName := ⟨RX7, "keepNumber", "(II)V"⟩
abbrev cX7_wordCode : ByteArray := prog_9_method_8_code
def yX7_wordCode : MethodName := ⟨RX7, "wordCode", "(II)I"⟩
abbrev cX7_spells : ByteArray := prog_9_method_9_code
def yX7_spells : MethodName := ⟨RX7, "spells", "(Ljava/lang/String;II)Z"⟩
abbrev cX7_wordOf : ByteArray := prog_9_method_10_code
def yX7_wordOf : MethodName := ⟨RX7, "wordOf", "(I)Ljava/lang/String;"⟩
abbrev cX7_signCode : ByteArray := prog_9_method_11_code
def yX7_signCode : MethodName := ⟨RX7, "signCode", "(I)I"⟩
abbrev cX7_isLetter : ByteArray := prog_9_method_12_code
def yX7_isLetter : MethodName := ⟨RX7, "isLetter", "(I)Z"⟩
abbrev cX7_isDigit : ByteArray := prog_9_method_13_code
def yX7_isDigit : MethodName := ⟨RX7, "isDigit", "(I)Z"⟩
abbrev cX7_isBlank : ByteArray := prog_9_method_14_code
def yX7_isBlank : MethodName := ⟨RX7, "isBlank", "(I)Z"⟩
def RX8 : String := "PeatBog"
def TX8 : u_T := fun k => match k with
  | 0 => ("PeatBog", "bays", "[LPeatBog$Bay;", true)
  | 1 => ("PeatBog", "stacks", "[LPeatBog$Stack;", true)
  | 2 => ("PeatBog", "laws", "[LPeatBog$Law;", true)
  | 3 => ("PeatBog", "noLaw", "LPeatBog$Law;", true)
  | 4 => ("PeatBog", "house", "LPeatBog$PowerHouse;", true)
  | 5 => ("PeatBog", "tape", "LPeatBog$Tape;", true)
  | 6 => ("PeatBog", "reader", "LPeatBog$LawReader;", true)
  | 7 => ("PeatBog", "laying", "LPeatBog$Laying;", true)
  | 8 => ("PeatBog", "stackCount", "I", false)
  | 9 => ("PeatBog", "lawCount", "I", false)
  | 10 => ("PeatBog", "today", "I", false)
  | 11 => ("PeatBog", "trackBay", "I", false)
  | 12 => ("PeatBog", "hoursEver", "I", false)
  | 13 => ("PeatBog", "ashEver", "I", false)
  | _ => ("PeatBog", "faultPlace", "I", false)
def tyX8 : Nat → FieldType := fun k => match k with
  | 0 => .array (.object "PeatBog$Bay")
  | 1 => .array (.object "PeatBog$Stack")
  | 2 => .array (.object "PeatBog$Law")
  | 3 => .object "PeatBog$Law"
  | 4 => .object "PeatBog$PowerHouse"
  | 5 => .object "PeatBog$Tape"
  | 6 => .object "PeatBog$LawReader"
  | 7 => .object "PeatBog$Laying"
  | 8 => .int
  | 9 => .int
  | 10 => .int
  | 11 => .int
  | 12 => .int
  | 13 => .int
  | _ => .int
abbrev wsX80 : List Cond := u_ws RX8 TX8 15
theorem nmX8 : ∀ a, a < 15 → ∀ b, b < 15 → a ≠ b → (TX8 a).2.1 ≠ (TX8 b).2.1 := by decide +kernel
theorem tyX8_ok : ∀ k, k < 15 → parseFieldDescriptor (TX8 k).2.2.1 = some (tyX8 k) := by decide +kernel
abbrev cX8_init : ByteArray := prog_1_method_1_code
def yX8_init : MethodName := ⟨RX8, "<init>", "()V"⟩
abbrev cX8_depth : ByteArray := prog_1_method_2_code
def yX8_depth : MethodName := ⟨RX8, "depth", "(II)Z"⟩
abbrev cX8_mill : ByteArray := prog_1_method_3_code
def yX8_mill : MethodName := ⟨RX8, "mill", "(II)I"⟩
abbrev cX8_ridge : ByteArray := prog_1_method_4_code
def yX8_ridge : MethodName := ⟨RX8, "ridge", "(I)Z"⟩
abbrev cX8_probe : ByteArray := prog_1_method_5_code
def yX8_probe : MethodName := ⟨RX8, "probe", "(II)I"⟩
abbrev cX8_stack : ByteArray := prog_1_method_6_code
def yX8_stack : MethodName := ⟨RX8, "stack", "()I"⟩
abbrev cX8_bars : ByteArray := prog_1_method_7_code
def yX8_bars : MethodName := ⟨RX8, "bars", "(I)I"⟩
abbrev cX8_gather : ByteArray := prog_1_method_8_code
def yX8_gather : MethodName := ⟨RX8, "gather", "(II)I"⟩
abbrev cX8_track : ByteArray := prog_1_method_9_code
def yX8_track : MethodName := ⟨RX8, "track", "(I)I"⟩
abbrev cX8_want : ByteArray := prog_1_method_10_code
def yX8_want : MethodName := ⟨RX8, "want", "(I)Z"⟩
abbrev cX8_read : ByteArray := prog_1_method_11_code
def yX8_read : MethodName := ⟨RX8, "read", "(II)Z"⟩
abbrev cX8_day : ByteArray := prog_1_method_12_code
def yX8_day : MethodName := ⟨RX8, "day", "(III)I"⟩
abbrev cX8_feed : ByteArray := prog_1_method_13_code
def yX8_feed : MethodName := ⟨RX8, "feed", "(IIIII)I"⟩
abbrev cX8_law : ByteArray := prog_1_method_14_code
def yX8_law : MethodName := ⟨RX8, "law", "(I)I"⟩
abbrev cX8_fault : ByteArray := prog_1_method_15_code
def yX8_fault : MethodName := ⟨RX8, "fault", "()I"⟩
abbrev cX8_tells : ByteArray := prog_1_method_16_code
def yX8_tells : MethodName := ⟨RX8, "tells", "(II)I"⟩
abbrev cX8_bay : ByteArray := prog_1_method_17_code
def yX8_bay : MethodName := ⟨RX8, "bay", "(II)I"⟩
abbrev cX8_stackOf : ByteArray := prog_1_method_18_code
def yX8_stackOf : MethodName := ⟨RX8, "stackOf", "(II)I"⟩
abbrev cX8_best : ByteArray := prog_1_method_19_code
def yX8_best : MethodName := ⟨RX8, "best", "(II)I"⟩
abbrev cX8_lasts : ByteArray := prog_1_method_20_code
def yX8_lasts : MethodName := ⟨RX8, "lasts", "()I"⟩
abbrev cX8_count : ByteArray := prog_1_method_21_code
def yX8_count : MethodName := ⟨RX8, "count", "(I)I"⟩
abbrev cX8_within : ByteArray := prog_1_method_22_code
def yX8_within : MethodName := ⟨RX8, "within", "(III)Z"⟩
abbrev cX8_isBay : ByteArray := prog_1_method_23_code
def yX8_isBay : MethodName := ⟨RX8, "isBay", "(I)Z"⟩
abbrev cX8_isStack : ByteArray := prog_1_method_24_code
def yX8_isStack : MethodName := ⟨RX8, "isStack", "(I)Z"⟩
abbrev cX8_lawOn : ByteArray := prog_1_method_25_code
def yX8_lawOn : MethodName := ⟨RX8, "lawOn", "(I)LPeatBog$Law;"⟩
abbrev cX8_applyLaw : ByteArray := prog_1_method_26_code
def yX8_applyLaw : MethodName := ⟨RX8, "applyLaw", "(LPeatBog$Law;)V"⟩
abbrev cX8_weightInStacks : ByteArray := prog_1_method_27_code
def yX8_weightInStacks : MethodName := ⟨RX8, "weightInStacks", "()I"⟩
def RX9 : String := "PeatBogModel"
def TX9 : u_T := fun k => match k with
  | 0 => ("PeatBogModel", "today", "I", false)
  | 1 => ("PeatBogModel", "track", "I", false)
  | 2 => ("PeatBogModel", "hours", "I", false)
  | 3 => ("PeatBogModel", "want", "I", false)
  | 4 => ("PeatBogModel", "store", "I", false)
  | 5 => ("PeatBogModel", "took", "I", false)
  | 6 => ("PeatBogModel", "lacked", "I", false)
  | 7 => ("PeatBogModel", "lately", "I", false)
  | 8 => ("PeatBogModel", "ash", "I", false)
  | 9 => ("PeatBogModel", "stacks", "I", false)
  | 10 => ("PeatBogModel", "depth", "[I", true)
  | 11 => ("PeatBogModel", "state", "[I", true)
  | 12 => ("PeatBogModel", "lies", "[I", true)
  | 13 => ("PeatBogModel", "wet", "[I", true)
  | 14 => ("PeatBogModel", "probes", "[I", true)
  | 15 => ("PeatBogModel", "wettest", "[I", true)
  | 16 => ("PeatBogModel", "everOf", "[I", true)
  | 17 => ("PeatBogModel", "weight", "[I", true)
  | 18 => ("PeatBogModel", "stackWet", "[I", true)
  | 19 => ("PeatBogModel", "heat", "[I", true)
  | 20 => ("PeatBogModel", "read", "[I", true)
  | 21 => ("PeatBogModel", "begun", "[I", true)
  | 22 => ("PeatBogModel", "burnsFrom", "[I", true)
  | 23 => ("PeatBogModel", "turned", "[I", true)
  | 24 => ("PeatBogModel", "isSent", "[Z", true)
  | 25 => ("PeatBogModel", "tape", "[B", true)
  | 26 => ("PeatBogModel", "text", "[B", true)
  | 27 => ("PeatBogModel", "taped", "I", false)
  | 28 => ("PeatBogModel", "size", "I", false)
  | 29 => ("PeatBogModel", "at", "I", false)
  | 30 => ("PeatBogModel", "fault", "I", false)
  | 31 => ("PeatBogModel", "laws", "I", false)
  | 32 => ("PeatBogModel", "statements", "[I", true)
  | 33 => ("PeatBogModel", "taken", "[I", true)
  | 34 => ("PeatBogModel", "sort", "[I", true)
  | 35 => ("PeatBogModel", "first", "[I", true)
  | 36 => ("PeatBogModel", "second", "[I", true)
  | 37 => ("PeatBogModel", "third", "[I", true)
  | 38 => ("PeatBogModel", "fourth", "[I", true)
  | 39 => ("PeatBogModel", "testMany", "[I", true)
  | 40 => ("PeatBogModel", "testName", "[I", true)
  | 41 => ("PeatBogModel", "testSign", "[I", true)
  | 42 => ("PeatBogModel", "testNumber", "[I", true)
  | 43 => ("PeatBogModel", "wordEnd", "I", false)
  | 44 => ("PeatBogModel", "number", "I", false)
  | 45 => ("PeatBogModel", "lays", "[I", true)
  | 46 => ("PeatBogModel", "bestLays", "[I", true)
  | _ => ("PeatBogModel", "isGone", "[Z", true)
def tyX9 : Nat → FieldType := fun k => match k with
  | 0 => .int
  | 1 => .int
  | 2 => .int
  | 3 => .int
  | 4 => .int
  | 5 => .int
  | 6 => .int
  | 7 => .int
  | 8 => .int
  | 9 => .int
  | 10 => .array .int
  | 11 => .array .int
  | 12 => .array .int
  | 13 => .array .int
  | 14 => .array .int
  | 15 => .array .int
  | 16 => .array .int
  | 17 => .array .int
  | 18 => .array .int
  | 19 => .array .int
  | 20 => .array .int
  | 21 => .array .int
  | 22 => .array .int
  | 23 => .array .int
  | 24 => .array .boolean
  | 25 => .array .byte
  | 26 => .array .byte
  | 27 => .int
  | 28 => .int
  | 29 => .int
  | 30 => .int
  | 31 => .int
  | 32 => .array .int
  | 33 => .array .int
  | 34 => .array .int
  | 35 => .array .int
  | 36 => .array .int
  | 37 => .array .int
  | 38 => .array .int
  | 39 => .array .int
  | 40 => .array .int
  | 41 => .array .int
  | 42 => .array .int
  | 43 => .int
  | 44 => .int
  | 45 => .array .int
  | 46 => .array .int
  | _ => .array .boolean
abbrev wsX90 : List Cond := u_ws RX9 TX9 48
theorem nmX9 : ∀ a, a < 48 → ∀ b, b < 48 → a ≠ b → (TX9 a).2.1 ≠ (TX9 b).2.1 := by decide +kernel
theorem tyX9_ok : ∀ k, k < 48 → parseFieldDescriptor (TX9 k).2.2.1 = some (tyX9 k) := by decide +kernel
abbrev cX9_init : ByteArray := prog_11_method_1_code
def yX9_init : MethodName := ⟨RX9, "<init>", "()V"⟩
abbrev cX9_isIn : ByteArray := prog_11_method_2_code
def yX9_isIn : MethodName := ⟨RX9, "isIn", "(III)Z"⟩
abbrev cX9_one : ByteArray := prog_11_method_3_code
def yX9_one : MethodName := ⟨RX9, "one", "(Z)I"⟩
abbrev cX9_isBay : ByteArray := prog_11_method_4_code
def yX9_isBay : MethodName := ⟨RX9, "isBay", "(I)Z"⟩
abbrev cX9_isStack : ByteArray := prog_11_method_5_code
def yX9_isStack : MethodName := ⟨RX9, "isStack", "(I)Z"⟩
abbrev cX9_feed : ByteArray := prog_11_method_6_code
def yX9_feed : MethodName := ⟨RX9, "feed", "(IIIII)I"⟩
abbrev cX9_four : ByteArray := prog_11_method_7_code
def yX9_four : MethodName := ⟨RX9, "four", "(I)V"⟩
abbrev cX9_blanks : ByteArray := prog_11_method_8_code
def yX9_blanks : MethodName := ⟨RX9, "blanks", "()V"⟩
abbrev cX9_word : ByteArray := prog_11_method_9_code
def yX9_word : MethodName := ⟨RX9, "word", "()J"⟩
abbrev cX9_takes : ByteArray := prog_11_method_10_code
def yX9_takes : MethodName := ⟨RX9, "takes", "(J)Z"⟩
abbrev cX9_takesNumber : ByteArray := prog_11_method_11_code
def yX9_takesNumber : MethodName := ⟨RX9, "takesNumber", "()Z"⟩
abbrev cX9_test : ByteArray := prog_11_method_12_code
def yX9_test : MethodName := ⟨RX9, "test", "(I)Z"⟩
abbrev cX9_closing : ByteArray := prog_11_method_13_code
def yX9_closing : MethodName := ⟨RX9, "closing", "(I)Z"⟩
abbrev cX9_acting : ByteArray := prog_11_method_14_code
def yX9_acting : MethodName := ⟨RX9, "acting", "(I)Z"⟩
abbrev cX9_statement : ByteArray := prog_11_method_15_code
def yX9_statement : MethodName := ⟨RX9, "statement", "(I)Z"⟩
abbrev cX9_law : ByteArray := prog_11_method_16_code
def yX9_law : MethodName := ⟨RX9, "law", "(I)I"⟩
abbrev cX9_fault : ByteArray := prog_11_method_17_code
def yX9_fault : MethodName := ⟨RX9, "fault", "()I"⟩
abbrev cX9_inForce : ByteArray := prog_11_method_18_code
def yX9_inForce : MethodName := ⟨RX9, "inForce", "(I)I"⟩
abbrev cX9_lastOf : ByteArray := prog_11_method_19_code
def yX9_lastOf : MethodName := ⟨RX9, "lastOf", "(III)I"⟩
abbrev cX9_isClosed : ByteArray := prog_11_method_20_code
def yX9_isClosed : MethodName := ⟨RX9, "isClosed", "(II)Z"⟩
abbrev cX9_tells : ByteArray := prog_11_method_21_code
def yX9_tells : MethodName := ⟨RX9, "tells", "(II)I"⟩
abbrev cX9_depth : ByteArray := prog_11_method_22_code
def yX9_depth : MethodName := ⟨RX9, "depth", "(II)Z"⟩
abbrev cX9_mill : ByteArray := prog_11_method_23_code
def yX9_mill : MethodName := ⟨RX9, "mill", "(II)I"⟩
abbrev cX9_ridge : ByteArray := prog_11_method_24_code
def yX9_ridge : MethodName := ⟨RX9, "ridge", "(I)Z"⟩
abbrev cX9_probe : ByteArray := prog_11_method_25_code
def yX9_probe : MethodName := ⟨RX9, "probe", "(II)I"⟩
abbrev cX9_stack : ByteArray := prog_11_method_26_code
def yX9_stack : MethodName := ⟨RX9, "stack", "()I"⟩
abbrev cX9_bars : ByteArray := prog_11_method_27_code
def yX9_bars : MethodName := ⟨RX9, "bars", "(I)I"⟩
abbrev cX9_burns : ByteArray := prog_11_method_28_code
def yX9_burns : MethodName := ⟨RX9, "burns", "(I)Z"⟩
abbrev cX9_gather : ByteArray := prog_11_method_29_code
def yX9_gather : MethodName := ⟨RX9, "gather", "(II)I"⟩
abbrev cX9_track : ByteArray := prog_11_method_30_code
def yX9_track : MethodName := ⟨RX9, "track", "(I)I"⟩
abbrev cX9_want : ByteArray := prog_11_method_31_code
def yX9_want : MethodName := ⟨RX9, "want", "(I)Z"⟩
abbrev cX9_read : ByteArray := prog_11_method_32_code
def yX9_read : MethodName := ⟨RX9, "read", "(II)Z"⟩
abbrev cX9_dries : ByteArray := prog_11_method_33_code
def yX9_dries : MethodName := ⟨RX9, "dries", "(IIII)V"⟩
abbrev cX9_heats : ByteArray := prog_11_method_34_code
def yX9_heats : MethodName := ⟨RX9, "heats", "(II)V"⟩
abbrev cX9_act : ByteArray := prog_11_method_35_code
def yX9_act : MethodName := ⟨RX9, "act", "(II)I"⟩
abbrev cX9_day : ByteArray := prog_11_method_36_code
def yX9_day : MethodName := ⟨RX9, "day", "(III)I"⟩
abbrev cX9_bay : ByteArray := prog_11_method_37_code
def yX9_bay : MethodName := ⟨RX9, "bay", "(II)I"⟩
abbrev cX9_stackOf : ByteArray := prog_11_method_38_code
def yX9_stackOf : MethodName := ⟨RX9, "stackOf", "(II)I"⟩
abbrev cX9_layingOf : ByteArray := prog_11_method_39_code
def yX9_layingOf : MethodName := ⟨RX9, "layingOf", "(I)I"⟩
abbrev cX9_best : ByteArray := prog_11_method_40_code
def yX9_best : MethodName := ⟨RX9, "best", "(II)I"⟩
abbrev cX9_lasts : ByteArray := prog_11_method_41_code
def yX9_lasts : MethodName := ⟨RX9, "lasts", "()I"⟩
abbrev cX9_count : ByteArray := prog_11_method_42_code
def yX9_count : MethodName := ⟨RX9, "count", "(I)I"⟩
def RJ9 : String := "java/lang/Math"
def TJ9 : u_T := fun k => match k with
  | _ => ("", "", "", false)
def tyJ9 : Nat → FieldType := fun k => match k with
  | _ => .int
abbrev wsJ90 : List Cond := u_ws RJ9 TJ9 0
theorem nmJ9 : ∀ a, a < 0 → ∀ b, b < 0 → a ≠ b → (TJ9 a).2.1 ≠ (TJ9 b).2.1 := by decide +kernel
theorem tyJ9_ok : ∀ k, k < 0 → parseFieldDescriptor (TJ9 k).2.2.1 = some (tyJ9 k) := by decide +kernel
abbrev cJ9_abs_0f7a4 : ByteArray := prog_12_method_59_code
def yJ9_abs_0f7a4 : MethodName := ⟨RJ9, "abs", "(I)I"⟩
abbrev cJ9_max_7cf53 : ByteArray := prog_12_method_65_code
def yJ9_max_7cf53 : MethodName := ⟨RJ9, "max", "(II)I"⟩
abbrev cJ9_min_7cf53 : ByteArray := prog_12_method_69_code
def yJ9_min_7cf53 : MethodName := ⟨RJ9, "min", "(II)I"⟩
def RJ0 : String := "java/lang/String"
def TJ0 : u_T := fun k => match k with
  | _ => ("", "", "", false)
def tyJ0 : Nat → FieldType := fun k => match k with
  | _ => .int
abbrev wsJ00 : List Cond := u_ws RJ0 TJ0 0
theorem nmJ0 : ∀ a, a < 0 → ∀ b, b < 0 → a ≠ b → (TJ0 a).2.1 ≠ (TJ0 b).2.1 := by decide +kernel
theorem tyJ0_ok : ∀ k, k < 0 → parseFieldDescriptor (TJ0 k).2.2.1 = some (tyJ0 k) := by decide +kernel
abbrev cJ0_length_8abf5 : ByteArray := prog_13_method_54_code
def yJ0_length_8abf5 : MethodName := ⟨RJ0, "length", "()I"⟩
abbrev cJ0_charAt_5068e : ByteArray := prog_13_method_56_code
def yJ0_charAt_5068e : MethodName := ⟨RJ0, "charAt", "(I)C"⟩
abbrev cJ0_coder_7d493 : ByteArray := prog_13_method_152_code
def yJ0_coder_7d493 : MethodName := ⟨RJ0, "coder", "()B"⟩
abbrev cJ0_isLatin1_aae02 : ByteArray := prog_13_method_154_code
def yJ0_isLatin1_aae02 : MethodName := ⟨RJ0, "isLatin1", "()Z"⟩
abbrev cJ0_checkIndex_df160 : ByteArray := prog_13_method_155_code
def yJ0_checkIndex_df160 : MethodName := ⟨RJ0, "checkIndex", "(II)V"⟩
def RJ1 : String := "java/lang/StringLatin1"
def TJ1 : u_T := fun k => match k with
  | _ => ("", "", "", false)
def tyJ1 : Nat → FieldType := fun k => match k with
  | _ => .int
abbrev wsJ10 : List Cond := u_ws RJ1 TJ1 0
theorem nmJ1 : ∀ a, a < 0 → ∀ b, b < 0 → a ≠ b → (TJ1 a).2.1 ≠ (TJ1 b).2.1 := by decide +kernel
theorem tyJ1_ok : ∀ k, k < 0 → parseFieldDescriptor (TJ1 k).2.2.1 = some (tyJ1 k) := by decide +kernel
abbrev cJ1_charAt_3b067 : ByteArray := prog_14_method_2_code
def yJ1_charAt_3b067 : MethodName := ⟨RJ1, "charAt", "([BI)C"⟩
def RJ2 : String := "java/lang/StringUTF16"
def TJ2 : u_T := fun k => match k with
  | _ => ("", "", "", false)
def tyJ2 : Nat → FieldType := fun k => match k with
  | _ => .int
abbrev wsJ20 : List Cond := u_ws RJ2 TJ2 0
theorem nmJ2 : ∀ a, a < 0 → ∀ b, b < 0 → a ≠ b → (TJ2 a).2.1 ≠ (TJ2 b).2.1 := by decide +kernel
theorem tyJ2_ok : ∀ k, k < 0 → parseFieldDescriptor (TJ2 k).2.2.1 = some (tyJ2 k) := by decide +kernel
abbrev cJ2_getChar_3b067 : ByteArray := prog_15_method_5_code
def yJ2_getChar_3b067 : MethodName := ⟨RJ2, "getChar", "([BI)C"⟩
abbrev cJ2_length_9d52b : ByteArray := prog_15_method_6_code
def yJ2_length_9d52b : MethodName := ⟨RJ2, "length", "([B)I"⟩
abbrev cJ2_charAt_3b067 : ByteArray := prog_15_method_83_code
def yJ2_charAt_3b067 : MethodName := ⟨RJ2, "charAt", "([BI)C"⟩
abbrev cJ2_checkIndex_2214a : ByteArray := prog_15_method_91_code
def yJ2_checkIndex_2214a : MethodName := ⟨RJ2, "checkIndex", "(I[B)V"⟩
def RJ3 : String := "jdk/internal/util/Preconditions"
def TJ3 : u_T := fun k => match k with
  | _ => ("", "", "", false)
def tyJ3 : Nat → FieldType := fun k => match k with
  | _ => .int
abbrev wsJ30 : List Cond := u_ws RJ3 TJ3 0
theorem nmJ3 : ∀ a, a < 0 → ∀ b, b < 0 → a ≠ b → (TJ3 a).2.1 ≠ (TJ3 b).2.1 := by decide +kernel
theorem tyJ3_ok : ∀ k, k < 0 → parseFieldDescriptor (TJ3 k).2.2.1 = some (tyJ3 k) := by decide +kernel
abbrev cJ3_checkIndex_8e157 : ByteArray := prog_16_method_11_code
def yJ3_checkIndex_8e157 : MethodName := ⟨RJ3, "checkIndex", "(IILjava/util/function/BiFunction;)I"⟩
def RL : String := "PeatBogLaw"
abbrev cL_law : ByteArray := code
def yL_law : MethodName := ⟨RL, "law", "([I)Z"⟩
abbrev vwCl : List vw_C := [(RX0, TX0, 7), (RX1, TX1, 15), (RX2, TX2, 2), (RX3, TX3, 8), (RX4, TX4, 5), (RX5, TX5, 9), (RX6, TX6, 2), (RX7, TX7, 6), (RX8, TX8, 15), (RX9, TX9, 48)]
end
section
theorem dX0_init_0 : decode cX0_init 0 = .ok (.aload_n 0, 1) := by decide +kernel
theorem dX0_init_1 : decode cX0_init 1 = .ok (.invokespecial 3, 3) := by decide +kernel
theorem dX0_init_4 : decode cX0_init 4 = .ok (.aload_n 0, 1) := by decide +kernel
theorem dX0_init_5 : decode cX0_init 5 = .ok (.sipush 1000, 3) := by decide +kernel
theorem dX0_init_8 : decode cX0_init 8 = .ok (.putfield 9, 3) := by decide +kernel
theorem dX0_init_11 : decode cX0_init 11 = .ok (.aload_n 0, 1) := by decide +kernel
theorem dX0_init_12 : decode cX0_init 12 = .ok (.iconst 0, 1) := by decide +kernel
theorem dX0_init_13 : decode cX0_init 13 = .ok (.putfield 15, 3) := by decide +kernel
theorem dX0_init_16 : decode cX0_init 16 = .ok (.aload_n 0, 1) := by decide +kernel
theorem dX0_init_17 : decode cX0_init 17 = .ok (.iconst 0, 1) := by decide +kernel
theorem dX0_init_18 : decode cX0_init 18 = .ok (.putfield 18, 3) := by decide +kernel
theorem dX0_init_21 : decode cX0_init 21 = .ok (.aload_n 0, 1) := by decide +kernel
theorem dX0_init_22 : decode cX0_init 22 = .ok (.iconst 0, 1) := by decide +kernel
theorem dX0_init_23 : decode cX0_init 23 = .ok (.putfield 21, 3) := by decide +kernel
theorem dX0_init_26 : decode cX0_init 26 = .ok (.aload_n 0, 1) := by decide +kernel
theorem dX0_init_27 : decode cX0_init 27 = .ok (.iconst 0, 1) := by decide +kernel
theorem dX0_init_28 : decode cX0_init 28 = .ok (.putfield 24, 3) := by decide +kernel
theorem dX0_init_31 : decode cX0_init 31 = .ok (.aload_n 0, 1) := by decide +kernel
theorem dX0_init_32 : decode cX0_init 32 = .ok (.iconst (-1), 1) := by decide +kernel
theorem dX0_init_33 : decode cX0_init 33 = .ok (.putfield 27, 3) := by decide +kernel
theorem dX0_init_36 : decode cX0_init 36 = .ok (.aload_n 0, 1) := by decide +kernel
theorem dX0_init_37 : decode cX0_init 37 = .ok (.iconst 0, 1) := by decide +kernel
theorem dX0_init_38 : decode cX0_init 38 = .ok (.putfield 30, 3) := by decide +kernel
theorem dX0_init_41 : decode cX0_init 41 = .ok (.return_, 1) := by decide +kernel
theorem dX0_lies_0 : decode cX0_lies 0 = .ok (.aload_n 0, 1) := by decide +kernel
theorem dX0_lies_1 : decode cX0_lies 1 = .ok (.getfield 15, 3) := by decide +kernel
theorem dX0_lies_4 : decode cX0_lies 4 = .ok (.ifCond .eq 7, 3) := by decide +kernel
theorem dX0_lies_7 : decode cX0_lies 7 = .ok (.iconst 1, 1) := by decide +kernel
theorem dX0_lies_8 : decode cX0_lies 8 = .ok (.goto 4, 3) := by decide +kernel
theorem dX0_lies_11 : decode cX0_lies 11 = .ok (.iconst 0, 1) := by decide +kernel
theorem dX0_lies_12 : decode cX0_lies 12 = .ok (.ireturn, 1) := by decide +kernel
theorem dX0_loosen_0 : decode cX0_loosen 0 = .ok (.aload_n 0, 1) := by decide +kernel
theorem dX0_loosen_1 : decode cX0_loosen 1 = .ok (.dup, 1) := by decide +kernel
theorem dX0_loosen_2 : decode cX0_loosen 2 = .ok (.getfield 9, 3) := by decide +kernel
theorem dX0_loosen_5 : decode cX0_loosen 5 = .ok (.iload_n 1, 1) := by decide +kernel
theorem dX0_loosen_6 : decode cX0_loosen 6 = .ok (.isub, 1) := by decide +kernel
theorem dX0_loosen_7 : decode cX0_loosen 7 = .ok (.putfield 9, 3) := by decide +kernel
theorem dX0_loosen_10 : decode cX0_loosen 10 = .ok (.aload_n 0, 1) := by decide +kernel
theorem dX0_loosen_11 : decode cX0_loosen 11 = .ok (.bipush 10, 2) := by decide +kernel
theorem dX0_loosen_13 : decode cX0_loosen 13 = .ok (.iload_n 1, 1) := by decide +kernel
theorem dX0_loosen_14 : decode cX0_loosen 14 = .ok (.imul, 1) := by decide +kernel
theorem dX0_loosen_15 : decode cX0_loosen 15 = .ok (.putfield 18, 3) := by decide +kernel
theorem dX0_loosen_18 : decode cX0_loosen 18 = .ok (.aload_n 0, 1) := by decide +kernel
theorem dX0_loosen_19 : decode cX0_loosen 19 = .ok (.sipush 800, 3) := by decide +kernel
theorem dX0_loosen_22 : decode cX0_loosen 22 = .ok (.putfield 21, 3) := by decide +kernel
theorem dX0_loosen_25 : decode cX0_loosen 25 = .ok (.aload_n 0, 1) := by decide +kernel
theorem dX0_loosen_26 : decode cX0_loosen 26 = .ok (.iconst 1, 1) := by decide +kernel
theorem dX0_loosen_27 : decode cX0_loosen 27 = .ok (.putfield 15, 3) := by decide +kernel
theorem dX0_loosen_30 : decode cX0_loosen 30 = .ok (.return_, 1) := by decide +kernel
theorem dX0_takesProbe_0 : decode cX0_takesProbe 0 = .ok (.aload_n 0, 1) := by decide +kernel
theorem dX0_takesProbe_1 : decode cX0_takesProbe 1 = .ok (.invokevirtual 33, 3) := by decide +kernel
theorem dX0_takesProbe_4 : decode cX0_takesProbe 4 = .ok (.ifCond .eq 16, 3) := by decide +kernel
theorem dX0_takesProbe_7 : decode cX0_takesProbe 7 = .ok (.aload_n 0, 1) := by decide +kernel
theorem dX0_takesProbe_8 : decode cX0_takesProbe 8 = .ok (.getfield 24, 3) := by decide +kernel
theorem dX0_takesProbe_11 : decode cX0_takesProbe 11 = .ok (.bipush 8, 2) := by decide +kernel
theorem dX0_takesProbe_13 : decode cX0_takesProbe 13 = .ok (.if_icmp .ge 7, 3) := by decide +kernel
theorem dX0_takesProbe_16 : decode cX0_takesProbe 16 = .ok (.iconst 1, 1) := by decide +kernel
theorem dX0_takesProbe_17 : decode cX0_takesProbe 17 = .ok (.goto 4, 3) := by decide +kernel
theorem dX0_takesProbe_20 : decode cX0_takesProbe 20 = .ok (.iconst 0, 1) := by decide +kernel
theorem dX0_takesProbe_21 : decode cX0_takesProbe 21 = .ok (.ireturn, 1) := by decide +kernel
theorem dX0_addProbe_0 : decode cX0_addProbe 0 = .ok (.aload_n 0, 1) := by decide +kernel
theorem dX0_addProbe_1 : decode cX0_addProbe 1 = .ok (.aload_n 0, 1) := by decide +kernel
theorem dX0_addProbe_2 : decode cX0_addProbe 2 = .ok (.getfield 27, 3) := by decide +kernel
theorem dX0_addProbe_5 : decode cX0_addProbe 5 = .ok (.iload_n 1, 1) := by decide +kernel
theorem dX0_addProbe_6 : decode cX0_addProbe 6 = .ok (.invokestatic 37, 3) := by decide +kernel
theorem dX0_addProbe_9 : decode cX0_addProbe 9 = .ok (.putfield 27, 3) := by decide +kernel
theorem dX0_addProbe_12 : decode cX0_addProbe 12 = .ok (.aload_n 0, 1) := by decide +kernel
theorem dX0_addProbe_13 : decode cX0_addProbe 13 = .ok (.dup, 1) := by decide +kernel
theorem dX0_addProbe_14 : decode cX0_addProbe 14 = .ok (.getfield 24, 3) := by decide +kernel
theorem dX0_addProbe_17 : decode cX0_addProbe 17 = .ok (.iconst 1, 1) := by decide +kernel
theorem dX0_addProbe_18 : decode cX0_addProbe 18 = .ok (.iadd, 1) := by decide +kernel
theorem dX0_addProbe_19 : decode cX0_addProbe 19 = .ok (.putfield 24, 3) := by decide +kernel
theorem dX0_addProbe_22 : decode cX0_addProbe 22 = .ok (.aload_n 0, 1) := by decide +kernel
theorem dX0_addProbe_23 : decode cX0_addProbe 23 = .ok (.getfield 24, 3) := by decide +kernel
theorem dX0_addProbe_26 : decode cX0_addProbe 26 = .ok (.ireturn, 1) := by decide +kernel
theorem dX0_clear_0 : decode cX0_clear 0 = .ok (.aload_n 0, 1) := by decide +kernel
theorem dX0_clear_1 : decode cX0_clear 1 = .ok (.dup, 1) := by decide +kernel
theorem dX0_clear_2 : decode cX0_clear 2 = .ok (.getfield 30, 3) := by decide +kernel
theorem dX0_clear_5 : decode cX0_clear 5 = .ok (.aload_n 0, 1) := by decide +kernel
theorem dX0_clear_6 : decode cX0_clear 6 = .ok (.getfield 18, 3) := by decide +kernel
theorem dX0_clear_9 : decode cX0_clear 9 = .ok (.iadd, 1) := by decide +kernel
theorem dX0_clear_10 : decode cX0_clear 10 = .ok (.putfield 30, 3) := by decide +kernel
theorem dX0_clear_13 : decode cX0_clear 13 = .ok (.aload_n 0, 1) := by decide +kernel
theorem dX0_clear_14 : decode cX0_clear 14 = .ok (.iconst 0, 1) := by decide +kernel
theorem dX0_clear_15 : decode cX0_clear 15 = .ok (.putfield 15, 3) := by decide +kernel
theorem dX0_clear_18 : decode cX0_clear 18 = .ok (.aload_n 0, 1) := by decide +kernel
theorem dX0_clear_19 : decode cX0_clear 19 = .ok (.iconst 0, 1) := by decide +kernel
theorem dX0_clear_20 : decode cX0_clear 20 = .ok (.putfield 18, 3) := by decide +kernel
theorem dX0_clear_23 : decode cX0_clear 23 = .ok (.aload_n 0, 1) := by decide +kernel
theorem dX0_clear_24 : decode cX0_clear 24 = .ok (.iconst 0, 1) := by decide +kernel
theorem dX0_clear_25 : decode cX0_clear 25 = .ok (.putfield 21, 3) := by decide +kernel
theorem dX0_clear_28 : decode cX0_clear 28 = .ok (.return_, 1) := by decide +kernel
theorem dX0_weather_0 : decode cX0_weather 0 = .ok (.aload_n 0, 1) := by decide +kernel
theorem dX0_weather_1 : decode cX0_weather 1 = .ok (.iconst 0, 1) := by decide +kernel
theorem dX0_weather_2 : decode cX0_weather 2 = .ok (.putfield 24, 3) := by decide +kernel
theorem dX0_weather_5 : decode cX0_weather 5 = .ok (.aload_n 0, 1) := by decide +kernel
theorem dX0_weather_6 : decode cX0_weather 6 = .ok (.iconst (-1), 1) := by decide +kernel
theorem dX0_weather_7 : decode cX0_weather 7 = .ok (.putfield 27, 3) := by decide +kernel
theorem dX0_weather_10 : decode cX0_weather 10 = .ok (.aload_n 0, 1) := by decide +kernel
theorem dX0_weather_11 : decode cX0_weather 11 = .ok (.invokevirtual 33, 3) := by decide +kernel
theorem dX0_weather_14 : decode cX0_weather 14 = .ok (.ifCond .ne 4, 3) := by decide +kernel
theorem dX0_weather_17 : decode cX0_weather 17 = .ok (.return_, 1) := by decide +kernel
theorem dX0_weather_18 : decode cX0_weather 18 = .ok (.bipush 12, 2) := by decide +kernel
theorem dX0_weather_20 : decode cX0_weather 20 = .ok (.iload_n 1, 1) := by decide +kernel
theorem dX0_weather_21 : decode cX0_weather 21 = .ok (.imul, 1) := by decide +kernel
theorem dX0_weather_22 : decode cX0_weather 22 = .ok (.bipush 6, 2) := by decide +kernel
theorem dX0_weather_24 : decode cX0_weather 24 = .ok (.iload_n 2, 1) := by decide +kernel
theorem dX0_weather_25 : decode cX0_weather 25 = .ok (.imul, 1) := by decide +kernel
theorem dX0_weather_26 : decode cX0_weather 26 = .ok (.iadd, 1) := by decide +kernel
theorem dX0_weather_27 : decode cX0_weather 27 = .ok (.istore 4, 2) := by decide +kernel
theorem dX0_weather_29 : decode cX0_weather 29 = .ok (.bipush 10, 2) := by decide +kernel
theorem dX0_weather_31 : decode cX0_weather 31 = .ok (.iload_n 3, 1) := by decide +kernel
theorem dX0_weather_32 : decode cX0_weather 32 = .ok (.imul, 1) := by decide +kernel
theorem dX0_weather_33 : decode cX0_weather 33 = .ok (.istore 5, 2) := by decide +kernel
theorem dX0_weather_35 : decode cX0_weather 35 = .ok (.aload_n 0, 1) := by decide +kernel
theorem dX0_weather_36 : decode cX0_weather 36 = .ok (.getfield 15, 3) := by decide +kernel
theorem dX0_weather_39 : decode cX0_weather 39 = .ok (.iconst 2, 1) := by decide +kernel
theorem dX0_weather_40 : decode cX0_weather 40 = .ok (.if_icmp .ne 15, 3) := by decide +kernel
theorem dX0_weather_43 : decode cX0_weather 43 = .ok (.iload 4, 2) := by decide +kernel
theorem dX0_weather_45 : decode cX0_weather 45 = .ok (.iconst 2, 1) := by decide +kernel
theorem dX0_weather_46 : decode cX0_weather 46 = .ok (.idiv, 1) := by decide +kernel
theorem dX0_weather_47 : decode cX0_weather 47 = .ok (.istore 4, 2) := by decide +kernel
theorem dX0_weather_49 : decode cX0_weather 49 = .ok (.iload 5, 2) := by decide +kernel
theorem dX0_weather_51 : decode cX0_weather 51 = .ok (.iconst 4, 1) := by decide +kernel
theorem dX0_weather_52 : decode cX0_weather 52 = .ok (.idiv, 1) := by decide +kernel
theorem dX0_weather_53 : decode cX0_weather 53 = .ok (.istore 5, 2) := by decide +kernel
theorem dX0_weather_55 : decode cX0_weather 55 = .ok (.aload_n 0, 1) := by decide +kernel
theorem dX0_weather_56 : decode cX0_weather 56 = .ok (.sipush 900, 3) := by decide +kernel
theorem dX0_weather_59 : decode cX0_weather 59 = .ok (.iconst 0, 1) := by decide +kernel
theorem dX0_weather_60 : decode cX0_weather 60 = .ok (.aload_n 0, 1) := by decide +kernel
theorem dX0_weather_61 : decode cX0_weather 61 = .ok (.getfield 21, 3) := by decide +kernel
theorem dX0_weather_64 : decode cX0_weather 64 = .ok (.iload 4, 2) := by decide +kernel
theorem dX0_weather_66 : decode cX0_weather 66 = .ok (.isub, 1) := by decide +kernel
theorem dX0_weather_67 : decode cX0_weather 67 = .ok (.invokestatic 37, 3) := by decide +kernel
theorem dX0_weather_70 : decode cX0_weather 70 = .ok (.iload 5, 2) := by decide +kernel
theorem dX0_weather_72 : decode cX0_weather 72 = .ok (.iadd, 1) := by decide +kernel
theorem dX0_weather_73 : decode cX0_weather 73 = .ok (.invokestatic 43, 3) := by decide +kernel
theorem dX0_weather_76 : decode cX0_weather 76 = .ok (.putfield 21, 3) := by decide +kernel
theorem dX0_weather_79 : decode cX0_weather 79 = .ok (.return_, 1) := by decide +kernel
theorem dX0_tellOf_0 : decode cX0_tellOf 0 = .ok (.iload_n 1, 1) := by decide +kernel
theorem dX0_tellOf_1 : decode cX0_tellOf 1 = .ok (.tableswitch 78 0 6 #[43, 48, 53, 58, 63, 68, 73], 43) := by decide +kernel
theorem dX0_tellOf_44 : decode cX0_tellOf 44 = .ok (.aload_n 0, 1) := by decide +kernel
theorem dX0_tellOf_45 : decode cX0_tellOf 45 = .ok (.getfield 9, 3) := by decide +kernel
theorem dX0_tellOf_48 : decode cX0_tellOf 48 = .ok (.ireturn, 1) := by decide +kernel
theorem dX0_tellOf_49 : decode cX0_tellOf 49 = .ok (.aload_n 0, 1) := by decide +kernel
theorem dX0_tellOf_50 : decode cX0_tellOf 50 = .ok (.getfield 15, 3) := by decide +kernel
theorem dX0_tellOf_53 : decode cX0_tellOf 53 = .ok (.ireturn, 1) := by decide +kernel
theorem dX0_tellOf_54 : decode cX0_tellOf 54 = .ok (.aload_n 0, 1) := by decide +kernel
theorem dX0_tellOf_55 : decode cX0_tellOf 55 = .ok (.getfield 18, 3) := by decide +kernel
theorem dX0_tellOf_58 : decode cX0_tellOf 58 = .ok (.ireturn, 1) := by decide +kernel
theorem dX0_tellOf_59 : decode cX0_tellOf 59 = .ok (.aload_n 0, 1) := by decide +kernel
theorem dX0_tellOf_60 : decode cX0_tellOf 60 = .ok (.getfield 21, 3) := by decide +kernel
theorem dX0_tellOf_63 : decode cX0_tellOf 63 = .ok (.ireturn, 1) := by decide +kernel
theorem dX0_tellOf_64 : decode cX0_tellOf 64 = .ok (.aload_n 0, 1) := by decide +kernel
theorem dX0_tellOf_65 : decode cX0_tellOf 65 = .ok (.getfield 24, 3) := by decide +kernel
theorem dX0_tellOf_68 : decode cX0_tellOf 68 = .ok (.ireturn, 1) := by decide +kernel
theorem dX0_tellOf_69 : decode cX0_tellOf 69 = .ok (.aload_n 0, 1) := by decide +kernel
theorem dX0_tellOf_70 : decode cX0_tellOf 70 = .ok (.getfield 27, 3) := by decide +kernel
theorem dX0_tellOf_73 : decode cX0_tellOf 73 = .ok (.ireturn, 1) := by decide +kernel
theorem dX0_tellOf_74 : decode cX0_tellOf 74 = .ok (.aload_n 0, 1) := by decide +kernel
theorem dX0_tellOf_75 : decode cX0_tellOf 75 = .ok (.getfield 30, 3) := by decide +kernel
theorem dX0_tellOf_78 : decode cX0_tellOf 78 = .ok (.ireturn, 1) := by decide +kernel
theorem dX0_tellOf_79 : decode cX0_tellOf 79 = .ok (.iconst (-1), 1) := by decide +kernel
theorem dX0_tellOf_80 : decode cX0_tellOf 80 = .ok (.ireturn, 1) := by decide +kernel
theorem dX1_init_0 : decode cX1_init 0 = .ok (.aload_n 0, 1) := by decide +kernel
theorem dX1_init_1 : decode cX1_init 1 = .ok (.invokespecial 3, 3) := by decide +kernel
theorem dX1_init_4 : decode cX1_init 4 = .ok (.aload_n 0, 1) := by decide +kernel
theorem dX1_init_5 : decode cX1_init 5 = .ok (.iconst (-1), 1) := by decide +kernel
theorem dX1_init_6 : decode cX1_init 6 = .ok (.putfield 9, 3) := by decide +kernel
theorem dX1_init_9 : decode cX1_init 9 = .ok (.aload_n 0, 1) := by decide +kernel
theorem dX1_init_10 : decode cX1_init 10 = .ok (.iconst 0, 1) := by decide +kernel
theorem dX1_init_11 : decode cX1_init 11 = .ok (.putfield 15, 3) := by decide +kernel
theorem dX1_init_14 : decode cX1_init 14 = .ok (.aload_n 0, 1) := by decide +kernel
theorem dX1_init_15 : decode cX1_init 15 = .ok (.sipush 550, 3) := by decide +kernel
theorem dX1_init_18 : decode cX1_init 18 = .ok (.putfield 18, 3) := by decide +kernel
theorem dX1_init_21 : decode cX1_init 21 = .ok (.aload_n 0, 1) := by decide +kernel
theorem dX1_init_22 : decode cX1_init 22 = .ok (.iconst 0, 1) := by decide +kernel
theorem dX1_init_23 : decode cX1_init 23 = .ok (.putfield 21, 3) := by decide +kernel
theorem dX1_init_26 : decode cX1_init 26 = .ok (.aload_n 0, 1) := by decide +kernel
theorem dX1_init_27 : decode cX1_init 27 = .ok (.iconst 0, 1) := by decide +kernel
theorem dX1_init_28 : decode cX1_init 28 = .ok (.putfield 24, 3) := by decide +kernel
theorem dX1_init_31 : decode cX1_init 31 = .ok (.aload_n 0, 1) := by decide +kernel
theorem dX1_init_32 : decode cX1_init 32 = .ok (.bipush 16, 2) := by decide +kernel
theorem dX1_init_34 : decode cX1_init 34 = .ok (.newarray .int, 2) := by decide +kernel
theorem dX1_init_36 : decode cX1_init 36 = .ok (.putfield 27, 3) := by decide +kernel
theorem dX1_init_39 : decode cX1_init 39 = .ok (.aload_n 0, 1) := by decide +kernel
theorem dX1_init_40 : decode cX1_init 40 = .ok (.bipush 16, 2) := by decide +kernel
theorem dX1_init_42 : decode cX1_init 42 = .ok (.newarray .int, 2) := by decide +kernel
theorem dX1_init_44 : decode cX1_init 44 = .ok (.putfield 31, 3) := by decide +kernel
theorem dX1_init_47 : decode cX1_init 47 = .ok (.aload_n 0, 1) := by decide +kernel
theorem dX1_init_48 : decode cX1_init 48 = .ok (.bipush 16, 2) := by decide +kernel
theorem dX1_init_50 : decode cX1_init 50 = .ok (.newarray .int, 2) := by decide +kernel
theorem dX1_init_52 : decode cX1_init 52 = .ok (.putfield 34, 3) := by decide +kernel
theorem dX1_init_55 : decode cX1_init 55 = .ok (.aload_n 0, 1) := by decide +kernel
theorem dX1_init_56 : decode cX1_init 56 = .ok (.bipush 16, 2) := by decide +kernel
theorem dX1_init_58 : decode cX1_init 58 = .ok (.newarray .int, 2) := by decide +kernel
theorem dX1_init_60 : decode cX1_init 60 = .ok (.putfield 37, 3) := by decide +kernel
theorem dX1_init_63 : decode cX1_init 63 = .ok (.aload_n 0, 1) := by decide +kernel
theorem dX1_init_64 : decode cX1_init 64 = .ok (.iconst 0, 1) := by decide +kernel
theorem dX1_init_65 : decode cX1_init 65 = .ok (.putfield 40, 3) := by decide +kernel
theorem dX1_init_68 : decode cX1_init 68 = .ok (.aload_n 0, 1) := by decide +kernel
theorem dX1_init_69 : decode cX1_init 69 = .ok (.bipush 16, 2) := by decide +kernel
theorem dX1_init_71 : decode cX1_init 71 = .ok (.newarray .int, 2) := by decide +kernel
theorem dX1_init_73 : decode cX1_init 73 = .ok (.putfield 43, 3) := by decide +kernel
theorem dX1_init_76 : decode cX1_init 76 = .ok (.aload_n 0, 1) := by decide +kernel
theorem dX1_init_77 : decode cX1_init 77 = .ok (.bipush 16, 2) := by decide +kernel
theorem dX1_init_79 : decode cX1_init 79 = .ok (.newarray .int, 2) := by decide +kernel
theorem dX1_init_81 : decode cX1_init 81 = .ok (.putfield 46, 3) := by decide +kernel
theorem dX1_init_84 : decode cX1_init 84 = .ok (.aload_n 0, 1) := by decide +kernel
theorem dX1_init_85 : decode cX1_init 85 = .ok (.bipush 48, 2) := by decide +kernel
theorem dX1_init_87 : decode cX1_init 87 = .ok (.newarray .int, 2) := by decide +kernel
theorem dX1_init_89 : decode cX1_init 89 = .ok (.putfield 49, 3) := by decide +kernel
theorem dX1_init_92 : decode cX1_init 92 = .ok (.aload_n 0, 1) := by decide +kernel
theorem dX1_init_93 : decode cX1_init 93 = .ok (.bipush 48, 2) := by decide +kernel
theorem dX1_init_95 : decode cX1_init 95 = .ok (.newarray .int, 2) := by decide +kernel
theorem dX1_init_97 : decode cX1_init 97 = .ok (.putfield 52, 3) := by decide +kernel
theorem dX1_init_100 : decode cX1_init 100 = .ok (.aload_n 0, 1) := by decide +kernel
theorem dX1_init_101 : decode cX1_init 101 = .ok (.bipush 48, 2) := by decide +kernel
theorem dX1_init_103 : decode cX1_init 103 = .ok (.newarray .int, 2) := by decide +kernel
theorem dX1_init_105 : decode cX1_init 105 = .ok (.putfield 55, 3) := by decide +kernel
theorem dX1_init_108 : decode cX1_init 108 = .ok (.return_, 1) := by decide +kernel
theorem dX1_begin_0 : decode cX1_begin 0 = .ok (.aload_n 0, 1) := by decide +kernel
theorem dX1_begin_1 : decode cX1_begin 1 = .ok (.iload_n 1, 1) := by decide +kernel
theorem dX1_begin_2 : decode cX1_begin 2 = .ok (.putfield 9, 3) := by decide +kernel
theorem dX1_begin_5 : decode cX1_begin 5 = .ok (.aload_n 0, 1) := by decide +kernel
theorem dX1_begin_6 : decode cX1_begin 6 = .ok (.iload_n 2, 1) := by decide +kernel
theorem dX1_begin_7 : decode cX1_begin 7 = .ok (.putfield 15, 3) := by decide +kernel
theorem dX1_begin_10 : decode cX1_begin 10 = .ok (.aload_n 0, 1) := by decide +kernel
theorem dX1_begin_11 : decode cX1_begin 11 = .ok (.sipush 550, 3) := by decide +kernel
theorem dX1_begin_14 : decode cX1_begin 14 = .ok (.putfield 18, 3) := by decide +kernel
theorem dX1_begin_17 : decode cX1_begin 17 = .ok (.aload_n 0, 1) := by decide +kernel
theorem dX1_begin_18 : decode cX1_begin 18 = .ok (.iconst 0, 1) := by decide +kernel
theorem dX1_begin_19 : decode cX1_begin 19 = .ok (.putfield 21, 3) := by decide +kernel
theorem dX1_begin_22 : decode cX1_begin 22 = .ok (.aload_n 0, 1) := by decide +kernel
theorem dX1_begin_23 : decode cX1_begin 23 = .ok (.iconst 0, 1) := by decide +kernel
theorem dX1_begin_24 : decode cX1_begin 24 = .ok (.putfield 24, 3) := by decide +kernel
theorem dX1_begin_27 : decode cX1_begin 27 = .ok (.aload_n 0, 1) := by decide +kernel
theorem dX1_begin_28 : decode cX1_begin 28 = .ok (.iconst 0, 1) := by decide +kernel
theorem dX1_begin_29 : decode cX1_begin 29 = .ok (.putfield 40, 3) := by decide +kernel
theorem dX1_begin_32 : decode cX1_begin 32 = .ok (.return_, 1) := by decide +kernel
theorem dX1_addClosing_0 : decode cX1_addClosing 0 = .ok (.aload_n 0, 1) := by decide +kernel
theorem dX1_addClosing_1 : decode cX1_addClosing 1 = .ok (.getfield 24, 3) := by decide +kernel
theorem dX1_addClosing_4 : decode cX1_addClosing 4 = .ok (.bipush 16, 2) := by decide +kernel
theorem dX1_addClosing_6 : decode cX1_addClosing 6 = .ok (.if_icmp .lt 4, 3) := by decide +kernel
theorem dX1_addClosing_9 : decode cX1_addClosing 9 = .ok (.return_, 1) := by decide +kernel
theorem dX1_addClosing_10 : decode cX1_addClosing 10 = .ok (.aload_n 0, 1) := by decide +kernel
theorem dX1_addClosing_11 : decode cX1_addClosing 11 = .ok (.getfield 27, 3) := by decide +kernel
theorem dX1_addClosing_14 : decode cX1_addClosing 14 = .ok (.aload_n 0, 1) := by decide +kernel
theorem dX1_addClosing_15 : decode cX1_addClosing 15 = .ok (.getfield 24, 3) := by decide +kernel
theorem dX1_addClosing_18 : decode cX1_addClosing 18 = .ok (.iload_n 1, 1) := by decide +kernel
theorem dX1_addClosing_19 : decode cX1_addClosing 19 = .ok (.iastore, 1) := by decide +kernel
theorem dX1_addClosing_20 : decode cX1_addClosing 20 = .ok (.aload_n 0, 1) := by decide +kernel
theorem dX1_addClosing_21 : decode cX1_addClosing 21 = .ok (.getfield 31, 3) := by decide +kernel
theorem dX1_addClosing_24 : decode cX1_addClosing 24 = .ok (.aload_n 0, 1) := by decide +kernel
theorem dX1_addClosing_25 : decode cX1_addClosing 25 = .ok (.getfield 24, 3) := by decide +kernel
theorem dX1_addClosing_28 : decode cX1_addClosing 28 = .ok (.iload_n 2, 1) := by decide +kernel
theorem dX1_addClosing_29 : decode cX1_addClosing 29 = .ok (.iastore, 1) := by decide +kernel
theorem dX1_addClosing_30 : decode cX1_addClosing 30 = .ok (.aload_n 0, 1) := by decide +kernel
theorem dX1_addClosing_31 : decode cX1_addClosing 31 = .ok (.getfield 34, 3) := by decide +kernel
theorem dX1_addClosing_34 : decode cX1_addClosing 34 = .ok (.aload_n 0, 1) := by decide +kernel
theorem dX1_addClosing_35 : decode cX1_addClosing 35 = .ok (.getfield 24, 3) := by decide +kernel
theorem dX1_addClosing_38 : decode cX1_addClosing 38 = .ok (.iload_n 3, 1) := by decide +kernel
theorem dX1_addClosing_39 : decode cX1_addClosing 39 = .ok (.iastore, 1) := by decide +kernel
theorem dX1_addClosing_40 : decode cX1_addClosing 40 = .ok (.aload_n 0, 1) := by decide +kernel
theorem dX1_addClosing_41 : decode cX1_addClosing 41 = .ok (.getfield 37, 3) := by decide +kernel
theorem dX1_addClosing_44 : decode cX1_addClosing 44 = .ok (.aload_n 0, 1) := by decide +kernel
theorem dX1_addClosing_45 : decode cX1_addClosing 45 = .ok (.getfield 24, 3) := by decide +kernel
theorem dX1_addClosing_48 : decode cX1_addClosing 48 = .ok (.iload 4, 2) := by decide +kernel
theorem dX1_addClosing_50 : decode cX1_addClosing 50 = .ok (.iastore, 1) := by decide +kernel
theorem dX1_addClosing_51 : decode cX1_addClosing 51 = .ok (.aload_n 0, 1) := by decide +kernel
theorem dX1_addClosing_52 : decode cX1_addClosing 52 = .ok (.dup, 1) := by decide +kernel
theorem dX1_addClosing_53 : decode cX1_addClosing 53 = .ok (.getfield 24, 3) := by decide +kernel
theorem dX1_addClosing_56 : decode cX1_addClosing 56 = .ok (.iconst 1, 1) := by decide +kernel
theorem dX1_addClosing_57 : decode cX1_addClosing 57 = .ok (.iadd, 1) := by decide +kernel
theorem dX1_addClosing_58 : decode cX1_addClosing 58 = .ok (.putfield 24, 3) := by decide +kernel
theorem dX1_addClosing_61 : decode cX1_addClosing 61 = .ok (.return_, 1) := by decide +kernel
theorem dX1_putTest_0 : decode cX1_putTest 0 = .ok (.aload_n 0, 1) := by decide +kernel
theorem dX1_putTest_1 : decode cX1_putTest 1 = .ok (.getfield 40, 3) := by decide +kernel
theorem dX1_putTest_4 : decode cX1_putTest 4 = .ok (.bipush 16, 2) := by decide +kernel
theorem dX1_putTest_6 : decode cX1_putTest 6 = .ok (.if_icmp .ge 12, 3) := by decide +kernel
theorem dX1_putTest_9 : decode cX1_putTest 9 = .ok (.iload_n 1, 1) := by decide +kernel
theorem dX1_putTest_10 : decode cX1_putTest 10 = .ok (.iconst 0, 1) := by decide +kernel
theorem dX1_putTest_11 : decode cX1_putTest 11 = .ok (.iconst 2, 1) := by decide +kernel
theorem dX1_putTest_12 : decode cX1_putTest 12 = .ok (.invokestatic 58, 3) := by decide +kernel
theorem dX1_putTest_15 : decode cX1_putTest 15 = .ok (.ifCond .ne 4, 3) := by decide +kernel
theorem dX1_putTest_18 : decode cX1_putTest 18 = .ok (.return_, 1) := by decide +kernel
theorem dX1_putTest_19 : decode cX1_putTest 19 = .ok (.aload_n 0, 1) := by decide +kernel
theorem dX1_putTest_20 : decode cX1_putTest 20 = .ok (.getfield 40, 3) := by decide +kernel
theorem dX1_putTest_23 : decode cX1_putTest 23 = .ok (.iconst 3, 1) := by decide +kernel
theorem dX1_putTest_24 : decode cX1_putTest 24 = .ok (.imul, 1) := by decide +kernel
theorem dX1_putTest_25 : decode cX1_putTest 25 = .ok (.iload_n 1, 1) := by decide +kernel
theorem dX1_putTest_26 : decode cX1_putTest 26 = .ok (.iadd, 1) := by decide +kernel
theorem dX1_putTest_27 : decode cX1_putTest 27 = .ok (.istore 5, 2) := by decide +kernel
theorem dX1_putTest_29 : decode cX1_putTest 29 = .ok (.aload_n 0, 1) := by decide +kernel
theorem dX1_putTest_30 : decode cX1_putTest 30 = .ok (.getfield 49, 3) := by decide +kernel
theorem dX1_putTest_33 : decode cX1_putTest 33 = .ok (.iload 5, 2) := by decide +kernel
theorem dX1_putTest_35 : decode cX1_putTest 35 = .ok (.iload_n 2, 1) := by decide +kernel
theorem dX1_putTest_36 : decode cX1_putTest 36 = .ok (.iastore, 1) := by decide +kernel
theorem dX1_putTest_37 : decode cX1_putTest 37 = .ok (.aload_n 0, 1) := by decide +kernel
theorem dX1_putTest_38 : decode cX1_putTest 38 = .ok (.getfield 52, 3) := by decide +kernel
theorem dX1_putTest_41 : decode cX1_putTest 41 = .ok (.iload 5, 2) := by decide +kernel
theorem dX1_putTest_43 : decode cX1_putTest 43 = .ok (.iload_n 3, 1) := by decide +kernel
theorem dX1_putTest_44 : decode cX1_putTest 44 = .ok (.iastore, 1) := by decide +kernel
theorem dX1_putTest_45 : decode cX1_putTest 45 = .ok (.aload_n 0, 1) := by decide +kernel
theorem dX1_putTest_46 : decode cX1_putTest 46 = .ok (.getfield 55, 3) := by decide +kernel
theorem dX1_putTest_49 : decode cX1_putTest 49 = .ok (.iload 5, 2) := by decide +kernel
theorem dX1_putTest_51 : decode cX1_putTest 51 = .ok (.iload 4, 2) := by decide +kernel
theorem dX1_putTest_53 : decode cX1_putTest 53 = .ok (.iastore, 1) := by decide +kernel
theorem dX1_putTest_54 : decode cX1_putTest 54 = .ok (.return_, 1) := by decide +kernel
theorem dX1_addRule_0 : decode cX1_addRule 0 = .ok (.aload_n 0, 1) := by decide +kernel
theorem dX1_addRule_1 : decode cX1_addRule 1 = .ok (.getfield 40, 3) := by decide +kernel
theorem dX1_addRule_4 : decode cX1_addRule 4 = .ok (.bipush 16, 2) := by decide +kernel
theorem dX1_addRule_6 : decode cX1_addRule 6 = .ok (.if_icmp .ge 12, 3) := by decide +kernel
theorem dX1_addRule_9 : decode cX1_addRule 9 = .ok (.iload_n 1, 1) := by decide +kernel
theorem dX1_addRule_10 : decode cX1_addRule 10 = .ok (.iconst 1, 1) := by decide +kernel
theorem dX1_addRule_11 : decode cX1_addRule 11 = .ok (.iconst 3, 1) := by decide +kernel
theorem dX1_addRule_12 : decode cX1_addRule 12 = .ok (.invokestatic 58, 3) := by decide +kernel
theorem dX1_addRule_15 : decode cX1_addRule 15 = .ok (.ifCond .ne 4, 3) := by decide +kernel
theorem dX1_addRule_18 : decode cX1_addRule 18 = .ok (.return_, 1) := by decide +kernel
theorem dX1_addRule_19 : decode cX1_addRule 19 = .ok (.aload_n 0, 1) := by decide +kernel
theorem dX1_addRule_20 : decode cX1_addRule 20 = .ok (.getfield 43, 3) := by decide +kernel
theorem dX1_addRule_23 : decode cX1_addRule 23 = .ok (.aload_n 0, 1) := by decide +kernel
theorem dX1_addRule_24 : decode cX1_addRule 24 = .ok (.getfield 40, 3) := by decide +kernel
theorem dX1_addRule_27 : decode cX1_addRule 27 = .ok (.iload_n 1, 1) := by decide +kernel
theorem dX1_addRule_28 : decode cX1_addRule 28 = .ok (.iastore, 1) := by decide +kernel
theorem dX1_addRule_29 : decode cX1_addRule 29 = .ok (.aload_n 0, 1) := by decide +kernel
theorem dX1_addRule_30 : decode cX1_addRule 30 = .ok (.getfield 46, 3) := by decide +kernel
theorem dX1_addRule_33 : decode cX1_addRule 33 = .ok (.aload_n 0, 1) := by decide +kernel
theorem dX1_addRule_34 : decode cX1_addRule 34 = .ok (.getfield 40, 3) := by decide +kernel
theorem dX1_addRule_37 : decode cX1_addRule 37 = .ok (.iload_n 2, 1) := by decide +kernel
theorem dX1_addRule_38 : decode cX1_addRule 38 = .ok (.iastore, 1) := by decide +kernel
theorem dX1_addRule_39 : decode cX1_addRule 39 = .ok (.aload_n 0, 1) := by decide +kernel
theorem dX1_addRule_40 : decode cX1_addRule 40 = .ok (.dup, 1) := by decide +kernel
theorem dX1_addRule_41 : decode cX1_addRule 41 = .ok (.getfield 40, 3) := by decide +kernel
theorem dX1_addRule_44 : decode cX1_addRule 44 = .ok (.iconst 1, 1) := by decide +kernel
theorem dX1_addRule_45 : decode cX1_addRule 45 = .ok (.iadd, 1) := by decide +kernel
theorem dX1_addRule_46 : decode cX1_addRule 46 = .ok (.putfield 40, 3) := by decide +kernel
theorem dX1_addRule_49 : decode cX1_addRule 49 = .ok (.return_, 1) := by decide +kernel
theorem dX1_closes_0 : decode cX1_closes 0 = .ok (.iload_n 2, 1) := by decide +kernel
theorem dX1_closes_1 : decode cX1_closes 1 = .ok (.sipush 365, 3) := by decide +kernel
theorem dX1_closes_4 : decode cX1_closes 4 = .ok (.irem, 1) := by decide +kernel
theorem dX1_closes_5 : decode cX1_closes 5 = .ok (.istore_n 3, 1) := by decide +kernel
theorem dX1_closes_6 : decode cX1_closes 6 = .ok (.iconst 0, 1) := by decide +kernel
theorem dX1_closes_7 : decode cX1_closes 7 = .ok (.istore 4, 2) := by decide +kernel
theorem dX1_closes_9 : decode cX1_closes 9 = .ok (.iload 4, 2) := by decide +kernel
theorem dX1_closes_11 : decode cX1_closes 11 = .ok (.aload_n 0, 1) := by decide +kernel
theorem dX1_closes_12 : decode cX1_closes 12 = .ok (.getfield 24, 3) := by decide +kernel
theorem dX1_closes_15 : decode cX1_closes 15 = .ok (.if_icmp .ge 42, 3) := by decide +kernel
theorem dX1_closes_18 : decode cX1_closes 18 = .ok (.iload_n 1, 1) := by decide +kernel
theorem dX1_closes_19 : decode cX1_closes 19 = .ok (.aload_n 0, 1) := by decide +kernel
theorem dX1_closes_20 : decode cX1_closes 20 = .ok (.getfield 27, 3) := by decide +kernel
theorem dX1_closes_23 : decode cX1_closes 23 = .ok (.iload 4, 2) := by decide +kernel
theorem dX1_closes_25 : decode cX1_closes 25 = .ok (.iaload, 1) := by decide +kernel
theorem dX1_closes_26 : decode cX1_closes 26 = .ok (.aload_n 0, 1) := by decide +kernel
theorem dX1_closes_27 : decode cX1_closes 27 = .ok (.getfield 31, 3) := by decide +kernel
theorem dX1_closes_30 : decode cX1_closes 30 = .ok (.iload 4, 2) := by decide +kernel
theorem dX1_closes_32 : decode cX1_closes 32 = .ok (.iaload, 1) := by decide +kernel
theorem dX1_closes_33 : decode cX1_closes 33 = .ok (.invokestatic 58, 3) := by decide +kernel
theorem dX1_closes_36 : decode cX1_closes 36 = .ok (.ifCond .eq 15, 3) := by decide +kernel
theorem dX1_closes_39 : decode cX1_closes 39 = .ok (.aload_n 0, 1) := by decide +kernel
theorem dX1_closes_40 : decode cX1_closes 40 = .ok (.iload 4, 2) := by decide +kernel
theorem dX1_closes_42 : decode cX1_closes 42 = .ok (.iload_n 3, 1) := by decide +kernel
theorem dX1_closes_43 : decode cX1_closes 43 = .ok (.invokevirtual 62, 3) := by decide +kernel
theorem dX1_closes_46 : decode cX1_closes 46 = .ok (.ifCond .eq 5, 3) := by decide +kernel
theorem dX1_closes_49 : decode cX1_closes 49 = .ok (.iconst 1, 1) := by decide +kernel
theorem dX1_closes_50 : decode cX1_closes 50 = .ok (.ireturn, 1) := by decide +kernel
theorem dX1_closes_51 : decode cX1_closes 51 = .ok (.iinc 4 1, 3) := by decide +kernel
theorem dX1_closes_54 : decode cX1_closes 54 = .ok (.goto (-45), 3) := by decide +kernel
theorem dX1_closes_57 : decode cX1_closes 57 = .ok (.iconst 0, 1) := by decide +kernel
theorem dX1_closes_58 : decode cX1_closes 58 = .ok (.ireturn, 1) := by decide +kernel
theorem dX1_runsOn_0 : decode cX1_runsOn 0 = .ok (.aload_n 0, 1) := by decide +kernel
theorem dX1_runsOn_1 : decode cX1_runsOn 1 = .ok (.getfield 37, 3) := by decide +kernel
theorem dX1_runsOn_4 : decode cX1_runsOn 4 = .ok (.iload_n 1, 1) := by decide +kernel
theorem dX1_runsOn_5 : decode cX1_runsOn 5 = .ok (.iaload, 1) := by decide +kernel
theorem dX1_runsOn_6 : decode cX1_runsOn 6 = .ok (.aload_n 0, 1) := by decide +kernel
theorem dX1_runsOn_7 : decode cX1_runsOn 7 = .ok (.getfield 34, 3) := by decide +kernel
theorem dX1_runsOn_10 : decode cX1_runsOn 10 = .ok (.iload_n 1, 1) := by decide +kernel
theorem dX1_runsOn_11 : decode cX1_runsOn 11 = .ok (.iaload, 1) := by decide +kernel
theorem dX1_runsOn_12 : decode cX1_runsOn 12 = .ok (.if_icmp .ge 29, 3) := by decide +kernel
theorem dX1_runsOn_15 : decode cX1_runsOn 15 = .ok (.iload_n 2, 1) := by decide +kernel
theorem dX1_runsOn_16 : decode cX1_runsOn 16 = .ok (.aload_n 0, 1) := by decide +kernel
theorem dX1_runsOn_17 : decode cX1_runsOn 17 = .ok (.getfield 34, 3) := by decide +kernel
theorem dX1_runsOn_20 : decode cX1_runsOn 20 = .ok (.iload_n 1, 1) := by decide +kernel
theorem dX1_runsOn_21 : decode cX1_runsOn 21 = .ok (.iaload, 1) := by decide +kernel
theorem dX1_runsOn_22 : decode cX1_runsOn 22 = .ok (.if_icmp .ge 13, 3) := by decide +kernel
theorem dX1_runsOn_25 : decode cX1_runsOn 25 = .ok (.iload_n 2, 1) := by decide +kernel
theorem dX1_runsOn_26 : decode cX1_runsOn 26 = .ok (.aload_n 0, 1) := by decide +kernel
theorem dX1_runsOn_27 : decode cX1_runsOn 27 = .ok (.getfield 37, 3) := by decide +kernel
theorem dX1_runsOn_30 : decode cX1_runsOn 30 = .ok (.iload_n 1, 1) := by decide +kernel
theorem dX1_runsOn_31 : decode cX1_runsOn 31 = .ok (.iaload, 1) := by decide +kernel
theorem dX1_runsOn_32 : decode cX1_runsOn 32 = .ok (.if_icmp .gt 7, 3) := by decide +kernel
theorem dX1_runsOn_35 : decode cX1_runsOn 35 = .ok (.iconst 1, 1) := by decide +kernel
theorem dX1_runsOn_36 : decode cX1_runsOn 36 = .ok (.goto 4, 3) := by decide +kernel
theorem dX1_runsOn_39 : decode cX1_runsOn 39 = .ok (.iconst 0, 1) := by decide +kernel
theorem dX1_runsOn_40 : decode cX1_runsOn 40 = .ok (.ireturn, 1) := by decide +kernel
theorem dX1_runsOn_41 : decode cX1_runsOn 41 = .ok (.iload_n 2, 1) := by decide +kernel
theorem dX1_runsOn_42 : decode cX1_runsOn 42 = .ok (.aload_n 0, 1) := by decide +kernel
theorem dX1_runsOn_43 : decode cX1_runsOn 43 = .ok (.getfield 34, 3) := by decide +kernel
theorem dX1_runsOn_46 : decode cX1_runsOn 46 = .ok (.iload_n 1, 1) := by decide +kernel
theorem dX1_runsOn_47 : decode cX1_runsOn 47 = .ok (.iaload, 1) := by decide +kernel
theorem dX1_runsOn_48 : decode cX1_runsOn 48 = .ok (.aload_n 0, 1) := by decide +kernel
theorem dX1_runsOn_49 : decode cX1_runsOn 49 = .ok (.getfield 37, 3) := by decide +kernel
theorem dX1_runsOn_52 : decode cX1_runsOn 52 = .ok (.iload_n 1, 1) := by decide +kernel
theorem dX1_runsOn_53 : decode cX1_runsOn 53 = .ok (.iaload, 1) := by decide +kernel
theorem dX1_runsOn_54 : decode cX1_runsOn 54 = .ok (.invokestatic 58, 3) := by decide +kernel
theorem dX1_runsOn_57 : decode cX1_runsOn 57 = .ok (.ireturn, 1) := by decide +kernel
theorem dX1_deedFor_0 : decode cX1_deedFor 0 = .ok (.iconst 0, 1) := by decide +kernel
theorem dX1_deedFor_1 : decode cX1_deedFor 1 = .ok (.istore_n 3, 1) := by decide +kernel
theorem dX1_deedFor_2 : decode cX1_deedFor 2 = .ok (.iload_n 3, 1) := by decide +kernel
theorem dX1_deedFor_3 : decode cX1_deedFor 3 = .ok (.aload_n 0, 1) := by decide +kernel
theorem dX1_deedFor_4 : decode cX1_deedFor 4 = .ok (.getfield 40, 3) := by decide +kernel
theorem dX1_deedFor_7 : decode cX1_deedFor 7 = .ok (.if_icmp .ge 26, 3) := by decide +kernel
theorem dX1_deedFor_10 : decode cX1_deedFor 10 = .ok (.aload_n 0, 1) := by decide +kernel
theorem dX1_deedFor_11 : decode cX1_deedFor 11 = .ok (.iload_n 3, 1) := by decide +kernel
theorem dX1_deedFor_12 : decode cX1_deedFor 12 = .ok (.aload_n 1, 1) := by decide +kernel
theorem dX1_deedFor_13 : decode cX1_deedFor 13 = .ok (.iload_n 2, 1) := by decide +kernel
theorem dX1_deedFor_14 : decode cX1_deedFor 14 = .ok (.invokevirtual 66, 3) := by decide +kernel
theorem dX1_deedFor_17 : decode cX1_deedFor 17 = .ok (.ifCond .eq 10, 3) := by decide +kernel
theorem dX1_deedFor_20 : decode cX1_deedFor 20 = .ok (.aload_n 0, 1) := by decide +kernel
theorem dX1_deedFor_21 : decode cX1_deedFor 21 = .ok (.getfield 46, 3) := by decide +kernel
theorem dX1_deedFor_24 : decode cX1_deedFor 24 = .ok (.iload_n 3, 1) := by decide +kernel
theorem dX1_deedFor_25 : decode cX1_deedFor 25 = .ok (.iaload, 1) := by decide +kernel
theorem dX1_deedFor_26 : decode cX1_deedFor 26 = .ok (.ireturn, 1) := by decide +kernel
theorem dX1_deedFor_27 : decode cX1_deedFor 27 = .ok (.iinc 3 1, 3) := by decide +kernel
theorem dX1_deedFor_30 : decode cX1_deedFor 30 = .ok (.goto (-28), 3) := by decide +kernel
theorem dX1_deedFor_33 : decode cX1_deedFor 33 = .ok (.bipush 11, 2) := by decide +kernel
theorem dX1_deedFor_35 : decode cX1_deedFor 35 = .ok (.ireturn, 1) := by decide +kernel
theorem dX1_allHold_0 : decode cX1_allHold 0 = .ok (.iload_n 1, 1) := by decide +kernel
theorem dX1_allHold_1 : decode cX1_allHold 1 = .ok (.iconst 3, 1) := by decide +kernel
theorem dX1_allHold_2 : decode cX1_allHold 2 = .ok (.imul, 1) := by decide +kernel
theorem dX1_allHold_3 : decode cX1_allHold 3 = .ok (.istore 4, 2) := by decide +kernel
theorem dX1_allHold_5 : decode cX1_allHold 5 = .ok (.iload 4, 2) := by decide +kernel
theorem dX1_allHold_7 : decode cX1_allHold 7 = .ok (.istore 5, 2) := by decide +kernel
theorem dX1_allHold_9 : decode cX1_allHold 9 = .ok (.iload 5, 2) := by decide +kernel
theorem dX1_allHold_11 : decode cX1_allHold 11 = .ok (.iload 4, 2) := by decide +kernel
theorem dX1_allHold_13 : decode cX1_allHold 13 = .ok (.aload_n 0, 1) := by decide +kernel
theorem dX1_allHold_14 : decode cX1_allHold 14 = .ok (.getfield 43, 3) := by decide +kernel
theorem dX1_allHold_17 : decode cX1_allHold 17 = .ok (.iload_n 1, 1) := by decide +kernel
theorem dX1_allHold_18 : decode cX1_allHold 18 = .ok (.iaload, 1) := by decide +kernel
theorem dX1_allHold_19 : decode cX1_allHold 19 = .ok (.iadd, 1) := by decide +kernel
theorem dX1_allHold_20 : decode cX1_allHold 20 = .ok (.if_icmp .ge 22, 3) := by decide +kernel
theorem dX1_allHold_23 : decode cX1_allHold 23 = .ok (.aload_n 0, 1) := by decide +kernel
theorem dX1_allHold_24 : decode cX1_allHold 24 = .ok (.iload 5, 2) := by decide +kernel
theorem dX1_allHold_26 : decode cX1_allHold 26 = .ok (.aload_n 2, 1) := by decide +kernel
theorem dX1_allHold_27 : decode cX1_allHold 27 = .ok (.iload_n 3, 1) := by decide +kernel
theorem dX1_allHold_28 : decode cX1_allHold 28 = .ok (.invokevirtual 72, 3) := by decide +kernel
theorem dX1_allHold_31 : decode cX1_allHold 31 = .ok (.ifCond .ne 5, 3) := by decide +kernel
theorem dX1_allHold_34 : decode cX1_allHold 34 = .ok (.iconst 0, 1) := by decide +kernel
theorem dX1_allHold_35 : decode cX1_allHold 35 = .ok (.ireturn, 1) := by decide +kernel
theorem dX1_allHold_36 : decode cX1_allHold 36 = .ok (.iinc 5 1, 3) := by decide +kernel
theorem dX1_allHold_39 : decode cX1_allHold 39 = .ok (.goto (-30), 3) := by decide +kernel
theorem dX1_allHold_42 : decode cX1_allHold 42 = .ok (.iconst 1, 1) := by decide +kernel
theorem dX1_allHold_43 : decode cX1_allHold 43 = .ok (.ireturn, 1) := by decide +kernel
theorem dX1_holds_0 : decode cX1_holds 0 = .ok (.aload_n 0, 1) := by decide +kernel
theorem dX1_holds_1 : decode cX1_holds 1 = .ok (.getfield 49, 3) := by decide +kernel
theorem dX1_holds_4 : decode cX1_holds 4 = .ok (.iload_n 1, 1) := by decide +kernel
theorem dX1_holds_5 : decode cX1_holds 5 = .ok (.iaload, 1) := by decide +kernel
theorem dX1_holds_6 : decode cX1_holds 6 = .ok (.bipush 12, 2) := by decide +kernel
theorem dX1_holds_8 : decode cX1_holds 8 = .ok (.if_icmp .ne 13, 3) := by decide +kernel
theorem dX1_holds_11 : decode cX1_holds 11 = .ok (.aload_n 2, 1) := by decide +kernel
theorem dX1_holds_12 : decode cX1_holds 12 = .ok (.getfield 75, 3) := by decide +kernel
theorem dX1_holds_15 : decode cX1_holds 15 = .ok (.iconst (-1), 1) := by decide +kernel
theorem dX1_holds_16 : decode cX1_holds 16 = .ok (.if_icmp .ne 5, 3) := by decide +kernel
theorem dX1_holds_19 : decode cX1_holds 19 = .ok (.iconst 0, 1) := by decide +kernel
theorem dX1_holds_20 : decode cX1_holds 20 = .ok (.ireturn, 1) := by decide +kernel
theorem dX1_holds_21 : decode cX1_holds 21 = .ok (.aload_n 0, 1) := by decide +kernel
theorem dX1_holds_22 : decode cX1_holds 22 = .ok (.getfield 49, 3) := by decide +kernel
theorem dX1_holds_25 : decode cX1_holds 25 = .ok (.iload_n 1, 1) := by decide +kernel
theorem dX1_holds_26 : decode cX1_holds 26 = .ok (.iaload, 1) := by decide +kernel
theorem dX1_holds_27 : decode cX1_holds 27 = .ok (.aload_n 2, 1) := by decide +kernel
theorem dX1_holds_28 : decode cX1_holds 28 = .ok (.iload_n 3, 1) := by decide +kernel
theorem dX1_holds_29 : decode cX1_holds 29 = .ok (.invokestatic 80, 3) := by decide +kernel
theorem dX1_holds_32 : decode cX1_holds 32 = .ok (.istore 4, 2) := by decide +kernel
theorem dX1_holds_34 : decode cX1_holds 34 = .ok (.aload_n 0, 1) := by decide +kernel
theorem dX1_holds_35 : decode cX1_holds 35 = .ok (.getfield 52, 3) := by decide +kernel
theorem dX1_holds_38 : decode cX1_holds 38 = .ok (.iload_n 1, 1) := by decide +kernel
theorem dX1_holds_39 : decode cX1_holds 39 = .ok (.iaload, 1) := by decide +kernel
theorem dX1_holds_40 : decode cX1_holds 40 = .ok (.lookupswitch 62 #[(60, 28), (62, 45)], 28) := by decide +kernel
theorem dX1_holds_68 : decode cX1_holds 68 = .ok (.iload 4, 2) := by decide +kernel
theorem dX1_holds_70 : decode cX1_holds 70 = .ok (.aload_n 0, 1) := by decide +kernel
theorem dX1_holds_71 : decode cX1_holds 71 = .ok (.getfield 55, 3) := by decide +kernel
theorem dX1_holds_74 : decode cX1_holds 74 = .ok (.iload_n 1, 1) := by decide +kernel
theorem dX1_holds_75 : decode cX1_holds 75 = .ok (.iaload, 1) := by decide +kernel
theorem dX1_holds_76 : decode cX1_holds 76 = .ok (.if_icmp .ge 7, 3) := by decide +kernel
theorem dX1_holds_79 : decode cX1_holds 79 = .ok (.iconst 1, 1) := by decide +kernel
theorem dX1_holds_80 : decode cX1_holds 80 = .ok (.goto 4, 3) := by decide +kernel
theorem dX1_holds_83 : decode cX1_holds 83 = .ok (.iconst 0, 1) := by decide +kernel
theorem dX1_holds_84 : decode cX1_holds 84 = .ok (.ireturn, 1) := by decide +kernel
theorem dX1_holds_85 : decode cX1_holds 85 = .ok (.iload 4, 2) := by decide +kernel
theorem dX1_holds_87 : decode cX1_holds 87 = .ok (.aload_n 0, 1) := by decide +kernel
theorem dX1_holds_88 : decode cX1_holds 88 = .ok (.getfield 55, 3) := by decide +kernel
theorem dX1_holds_91 : decode cX1_holds 91 = .ok (.iload_n 1, 1) := by decide +kernel
theorem dX1_holds_92 : decode cX1_holds 92 = .ok (.iaload, 1) := by decide +kernel
theorem dX1_holds_93 : decode cX1_holds 93 = .ok (.if_icmp .le 7, 3) := by decide +kernel
theorem dX1_holds_96 : decode cX1_holds 96 = .ok (.iconst 1, 1) := by decide +kernel
theorem dX1_holds_97 : decode cX1_holds 97 = .ok (.goto 4, 3) := by decide +kernel
theorem dX1_holds_100 : decode cX1_holds 100 = .ok (.iconst 0, 1) := by decide +kernel
theorem dX1_holds_101 : decode cX1_holds 101 = .ok (.ireturn, 1) := by decide +kernel
theorem dX1_holds_102 : decode cX1_holds 102 = .ok (.iload 4, 2) := by decide +kernel
theorem dX1_holds_104 : decode cX1_holds 104 = .ok (.aload_n 0, 1) := by decide +kernel
theorem dX1_holds_105 : decode cX1_holds 105 = .ok (.getfield 55, 3) := by decide +kernel
theorem dX1_holds_108 : decode cX1_holds 108 = .ok (.iload_n 1, 1) := by decide +kernel
theorem dX1_holds_109 : decode cX1_holds 109 = .ok (.iaload, 1) := by decide +kernel
theorem dX1_holds_110 : decode cX1_holds 110 = .ok (.if_icmp .ne 7, 3) := by decide +kernel
theorem dX1_holds_113 : decode cX1_holds 113 = .ok (.iconst 1, 1) := by decide +kernel
theorem dX1_holds_114 : decode cX1_holds 114 = .ok (.goto 4, 3) := by decide +kernel
theorem dX1_holds_117 : decode cX1_holds 117 = .ok (.iconst 0, 1) := by decide +kernel
theorem dX1_holds_118 : decode cX1_holds 118 = .ok (.ireturn, 1) := by decide +kernel
theorem dX1_valueOf_0 : decode cX1_valueOf 0 = .ok (.iload_n 0, 1) := by decide +kernel
theorem dX1_valueOf_1 : decode cX1_valueOf 1 = .ok (.lookupswitch 34 #[(12, 27), (13, 32)], 27) := by decide +kernel
theorem dX1_valueOf_28 : decode cX1_valueOf 28 = .ok (.aload_n 1, 1) := by decide +kernel
theorem dX1_valueOf_29 : decode cX1_valueOf 29 = .ok (.getfield 75, 3) := by decide +kernel
theorem dX1_valueOf_32 : decode cX1_valueOf 32 = .ok (.ireturn, 1) := by decide +kernel
theorem dX1_valueOf_33 : decode cX1_valueOf 33 = .ok (.iload_n 2, 1) := by decide +kernel
theorem dX1_valueOf_34 : decode cX1_valueOf 34 = .ok (.ireturn, 1) := by decide +kernel
theorem dX1_valueOf_35 : decode cX1_valueOf 35 = .ok (.aload_n 1, 1) := by decide +kernel
theorem dX1_valueOf_36 : decode cX1_valueOf 36 = .ok (.getfield 84, 3) := by decide +kernel
theorem dX1_valueOf_39 : decode cX1_valueOf 39 = .ok (.ireturn, 1) := by decide +kernel
theorem dX2_init_0 : decode cX2_init 0 = .ok (.aload_n 0, 1) := by decide +kernel
theorem dX2_init_1 : decode cX2_init 1 = .ok (.invokespecial 3, 3) := by decide +kernel
theorem dX2_init_4 : decode cX2_init 4 = .ok (.aload_n 0, 1) := by decide +kernel
theorem dX2_init_5 : decode cX2_init 5 = .ok (.iconst 0, 1) := by decide +kernel
theorem dX2_init_6 : decode cX2_init 6 = .ok (.putfield 9, 3) := by decide +kernel
theorem dX2_init_9 : decode cX2_init 9 = .ok (.aload_n 0, 1) := by decide +kernel
theorem dX2_init_10 : decode cX2_init 10 = .ok (.new 15, 3) := by decide +kernel
theorem dX2_init_13 : decode cX2_init 13 = .ok (.dup, 1) := by decide +kernel
theorem dX2_init_14 : decode cX2_init 14 = .ok (.aload_n 1, 1) := by decide +kernel
theorem dX2_init_15 : decode cX2_init 15 = .ok (.invokespecial 17, 3) := by decide +kernel
theorem dX2_init_18 : decode cX2_init 18 = .ok (.putfield 20, 3) := by decide +kernel
theorem dX2_init_21 : decode cX2_init 21 = .ok (.return_, 1) := by decide +kernel
theorem dX2_readText_0 : decode cX2_readText 0 = .ok (.aload_n 0, 1) := by decide +kernel
theorem dX2_readText_1 : decode cX2_readText 1 = .ok (.getfield 20, 3) := by decide +kernel
theorem dX2_readText_4 : decode cX2_readText 4 = .ok (.iload_n 1, 1) := by decide +kernel
theorem dX2_readText_5 : decode cX2_readText 5 = .ok (.invokevirtual 24, 3) := by decide +kernel
theorem dX2_readText_8 : decode cX2_readText 8 = .ok (.aload_n 0, 1) := by decide +kernel
theorem dX2_readText_9 : decode cX2_readText 9 = .ok (.iconst 0, 1) := by decide +kernel
theorem dX2_readText_10 : decode cX2_readText 10 = .ok (.putfield 9, 3) := by decide +kernel
theorem dX2_readText_13 : decode cX2_readText 13 = .ok (.iconst 0, 1) := by decide +kernel
theorem dX2_readText_14 : decode cX2_readText 14 = .ok (.istore_n 3, 1) := by decide +kernel
theorem dX2_readText_15 : decode cX2_readText 15 = .ok (.iload_n 3, 1) := by decide +kernel
theorem dX2_readText_16 : decode cX2_readText 16 = .ok (.bipush 16, 2) := by decide +kernel
theorem dX2_readText_18 : decode cX2_readText 18 = .ok (.if_icmp .ge 45, 3) := by decide +kernel
theorem dX2_readText_21 : decode cX2_readText 21 = .ok (.aload_n 0, 1) := by decide +kernel
theorem dX2_readText_22 : decode cX2_readText 22 = .ok (.getfield 20, 3) := by decide +kernel
theorem dX2_readText_25 : decode cX2_readText 25 = .ok (.aload_n 0, 1) := by decide +kernel
theorem dX2_readText_26 : decode cX2_readText 26 = .ok (.getfield 9, 3) := by decide +kernel
theorem dX2_readText_29 : decode cX2_readText 29 = .ok (.invokevirtual 30, 3) := by decide +kernel
theorem dX2_readText_32 : decode cX2_readText 32 = .ok (.ifCond .ne 5, 3) := by decide +kernel
theorem dX2_readText_35 : decode cX2_readText 35 = .ok (.iconst (-1), 1) := by decide +kernel
theorem dX2_readText_36 : decode cX2_readText 36 = .ok (.ireturn, 1) := by decide +kernel
theorem dX2_readText_37 : decode cX2_readText 37 = .ok (.aload_n 0, 1) := by decide +kernel
theorem dX2_readText_38 : decode cX2_readText 38 = .ok (.aload_n 2, 1) := by decide +kernel
theorem dX2_readText_39 : decode cX2_readText 39 = .ok (.invokevirtual 34, 3) := by decide +kernel
theorem dX2_readText_42 : decode cX2_readText 42 = .ok (.ifCond .ne 15, 3) := by decide +kernel
theorem dX2_readText_45 : decode cX2_readText 45 = .ok (.aload_n 0, 1) := by decide +kernel
theorem dX2_readText_46 : decode cX2_readText 46 = .ok (.getfield 20, 3) := by decide +kernel
theorem dX2_readText_49 : decode cX2_readText 49 = .ok (.aload_n 0, 1) := by decide +kernel
theorem dX2_readText_50 : decode cX2_readText 50 = .ok (.getfield 9, 3) := by decide +kernel
theorem dX2_readText_53 : decode cX2_readText 53 = .ok (.invokevirtual 38, 3) := by decide +kernel
theorem dX2_readText_56 : decode cX2_readText 56 = .ok (.ireturn, 1) := by decide +kernel
theorem dX2_readText_57 : decode cX2_readText 57 = .ok (.iinc 3 1, 3) := by decide +kernel
theorem dX2_readText_60 : decode cX2_readText 60 = .ok (.goto (-45), 3) := by decide +kernel
theorem dX2_readText_63 : decode cX2_readText 63 = .ok (.aload_n 0, 1) := by decide +kernel
theorem dX2_readText_64 : decode cX2_readText 64 = .ok (.getfield 20, 3) := by decide +kernel
theorem dX2_readText_67 : decode cX2_readText 67 = .ok (.aload_n 0, 1) := by decide +kernel
theorem dX2_readText_68 : decode cX2_readText 68 = .ok (.getfield 9, 3) := by decide +kernel
theorem dX2_readText_71 : decode cX2_readText 71 = .ok (.invokevirtual 30, 3) := by decide +kernel
theorem dX2_readText_74 : decode cX2_readText 74 = .ok (.ifCond .ne 7, 3) := by decide +kernel
theorem dX2_readText_77 : decode cX2_readText 77 = .ok (.iconst (-1), 1) := by decide +kernel
theorem dX2_readText_78 : decode cX2_readText 78 = .ok (.goto 14, 3) := by decide +kernel
theorem dX2_readText_81 : decode cX2_readText 81 = .ok (.aload_n 0, 1) := by decide +kernel
theorem dX2_readText_82 : decode cX2_readText 82 = .ok (.getfield 20, 3) := by decide +kernel
theorem dX2_readText_85 : decode cX2_readText 85 = .ok (.aload_n 0, 1) := by decide +kernel
theorem dX2_readText_86 : decode cX2_readText 86 = .ok (.getfield 9, 3) := by decide +kernel
theorem dX2_readText_89 : decode cX2_readText 89 = .ok (.invokevirtual 38, 3) := by decide +kernel
theorem dX2_readText_92 : decode cX2_readText 92 = .ok (.ireturn, 1) := by decide +kernel
theorem dX2_readStatement_0 : decode cX2_readStatement 0 = .ok (.aload_n 0, 1) := by decide +kernel
theorem dX2_readStatement_1 : decode cX2_readStatement 1 = .ok (.iconst 1, 1) := by decide +kernel
theorem dX2_readStatement_2 : decode cX2_readStatement 2 = .ok (.invokevirtual 41, 3) := by decide +kernel
theorem dX2_readStatement_5 : decode cX2_readStatement 5 = .ok (.ifCond .eq 34, 3) := by decide +kernel
theorem dX2_readStatement_8 : decode cX2_readStatement 8 = .ok (.aload_n 1, 1) := by decide +kernel
theorem dX2_readStatement_9 : decode cX2_readStatement 9 = .ok (.aload_n 0, 1) := by decide +kernel
theorem dX2_readStatement_10 : decode cX2_readStatement 10 = .ok (.invokevirtual 45, 3) := by decide +kernel
theorem dX2_readStatement_13 : decode cX2_readStatement 13 = .ok (.putfield 49, 3) := by decide +kernel
theorem dX2_readStatement_16 : decode cX2_readStatement 16 = .ok (.aload_n 1, 1) := by decide +kernel
theorem dX2_readStatement_17 : decode cX2_readStatement 17 = .ok (.getfield 49, 3) := by decide +kernel
theorem dX2_readStatement_20 : decode cX2_readStatement 20 = .ok (.iconst (-1), 1) := by decide +kernel
theorem dX2_readStatement_21 : decode cX2_readStatement 21 = .ok (.if_icmp .eq 16, 3) := by decide +kernel
theorem dX2_readStatement_24 : decode cX2_readStatement 24 = .ok (.aload_n 0, 1) := by decide +kernel
theorem dX2_readStatement_25 : decode cX2_readStatement 25 = .ok (.bipush 59, 2) := by decide +kernel
theorem dX2_readStatement_27 : decode cX2_readStatement 27 = .ok (.invokevirtual 41, 3) := by decide +kernel
theorem dX2_readStatement_30 : decode cX2_readStatement 30 = .ok (.ifCond .eq 7, 3) := by decide +kernel
theorem dX2_readStatement_33 : decode cX2_readStatement 33 = .ok (.iconst 1, 1) := by decide +kernel
theorem dX2_readStatement_34 : decode cX2_readStatement 34 = .ok (.goto 4, 3) := by decide +kernel
theorem dX2_readStatement_37 : decode cX2_readStatement 37 = .ok (.iconst 0, 1) := by decide +kernel
theorem dX2_readStatement_38 : decode cX2_readStatement 38 = .ok (.ireturn, 1) := by decide +kernel
theorem dX2_readStatement_39 : decode cX2_readStatement 39 = .ok (.aload_n 0, 1) := by decide +kernel
theorem dX2_readStatement_40 : decode cX2_readStatement 40 = .ok (.iconst 2, 1) := by decide +kernel
theorem dX2_readStatement_41 : decode cX2_readStatement 41 = .ok (.invokevirtual 41, 3) := by decide +kernel
theorem dX2_readStatement_44 : decode cX2_readStatement 44 = .ok (.ifCond .eq 34, 3) := by decide +kernel
theorem dX2_readStatement_47 : decode cX2_readStatement 47 = .ok (.aload_n 1, 1) := by decide +kernel
theorem dX2_readStatement_48 : decode cX2_readStatement 48 = .ok (.aload_n 0, 1) := by decide +kernel
theorem dX2_readStatement_49 : decode cX2_readStatement 49 = .ok (.invokevirtual 45, 3) := by decide +kernel
theorem dX2_readStatement_52 : decode cX2_readStatement 52 = .ok (.putfield 52, 3) := by decide +kernel
theorem dX2_readStatement_55 : decode cX2_readStatement 55 = .ok (.aload_n 1, 1) := by decide +kernel
theorem dX2_readStatement_56 : decode cX2_readStatement 56 = .ok (.getfield 52, 3) := by decide +kernel
theorem dX2_readStatement_59 : decode cX2_readStatement 59 = .ok (.iconst (-1), 1) := by decide +kernel
theorem dX2_readStatement_60 : decode cX2_readStatement 60 = .ok (.if_icmp .eq 16, 3) := by decide +kernel
theorem dX2_readStatement_63 : decode cX2_readStatement 63 = .ok (.aload_n 0, 1) := by decide +kernel
theorem dX2_readStatement_64 : decode cX2_readStatement 64 = .ok (.bipush 59, 2) := by decide +kernel
theorem dX2_readStatement_66 : decode cX2_readStatement 66 = .ok (.invokevirtual 41, 3) := by decide +kernel
theorem dX2_readStatement_69 : decode cX2_readStatement 69 = .ok (.ifCond .eq 7, 3) := by decide +kernel
theorem dX2_readStatement_72 : decode cX2_readStatement 72 = .ok (.iconst 1, 1) := by decide +kernel
theorem dX2_readStatement_73 : decode cX2_readStatement 73 = .ok (.goto 4, 3) := by decide +kernel
theorem dX2_readStatement_76 : decode cX2_readStatement 76 = .ok (.iconst 0, 1) := by decide +kernel
theorem dX2_readStatement_77 : decode cX2_readStatement 77 = .ok (.ireturn, 1) := by decide +kernel
theorem dX2_readStatement_78 : decode cX2_readStatement 78 = .ok (.aload_n 0, 1) := by decide +kernel
theorem dX2_readStatement_79 : decode cX2_readStatement 79 = .ok (.iconst 3, 1) := by decide +kernel
theorem dX2_readStatement_80 : decode cX2_readStatement 80 = .ok (.invokevirtual 41, 3) := by decide +kernel
theorem dX2_readStatement_83 : decode cX2_readStatement 83 = .ok (.ifCond .eq 9, 3) := by decide +kernel
theorem dX2_readStatement_86 : decode cX2_readStatement 86 = .ok (.aload_n 0, 1) := by decide +kernel
theorem dX2_readStatement_87 : decode cX2_readStatement 87 = .ok (.aload_n 1, 1) := by decide +kernel
theorem dX2_readStatement_88 : decode cX2_readStatement 88 = .ok (.invokevirtual 55, 3) := by decide +kernel
theorem dX2_readStatement_91 : decode cX2_readStatement 91 = .ok (.ireturn, 1) := by decide +kernel
theorem dX2_readStatement_92 : decode cX2_readStatement 92 = .ok (.aload_n 0, 1) := by decide +kernel
theorem dX2_readStatement_93 : decode cX2_readStatement 93 = .ok (.bipush 6, 2) := by decide +kernel
theorem dX2_readStatement_95 : decode cX2_readStatement 95 = .ok (.invokevirtual 41, 3) := by decide +kernel
theorem dX2_readStatement_98 : decode cX2_readStatement 98 = .ok (.ifCond .eq 15, 3) := by decide +kernel
theorem dX2_readStatement_101 : decode cX2_readStatement 101 = .ok (.aload_n 0, 1) := by decide +kernel
theorem dX2_readStatement_102 : decode cX2_readStatement 102 = .ok (.aload_n 1, 1) := by decide +kernel
theorem dX2_readStatement_103 : decode cX2_readStatement 103 = .ok (.invokevirtual 58, 3) := by decide +kernel
theorem dX2_readStatement_106 : decode cX2_readStatement 106 = .ok (.ifCond .eq 7, 3) := by decide +kernel
theorem dX2_readStatement_109 : decode cX2_readStatement 109 = .ok (.iconst 1, 1) := by decide +kernel
theorem dX2_readStatement_110 : decode cX2_readStatement 110 = .ok (.goto 4, 3) := by decide +kernel
theorem dX2_readStatement_113 : decode cX2_readStatement 113 = .ok (.iconst 0, 1) := by decide +kernel
theorem dX2_readStatement_114 : decode cX2_readStatement 114 = .ok (.ireturn, 1) := by decide +kernel
theorem dX2_readClosing_0 : decode cX2_readClosing 0 = .ok (.aload_n 0, 1) := by decide +kernel
theorem dX2_readClosing_1 : decode cX2_readClosing 1 = .ok (.invokevirtual 45, 3) := by decide +kernel
theorem dX2_readClosing_4 : decode cX2_readClosing 4 = .ok (.istore_n 2, 1) := by decide +kernel
theorem dX2_readClosing_5 : decode cX2_readClosing 5 = .ok (.iload_n 2, 1) := by decide +kernel
theorem dX2_readClosing_6 : decode cX2_readClosing 6 = .ok (.iconst (-1), 1) := by decide +kernel
theorem dX2_readClosing_7 : decode cX2_readClosing 7 = .ok (.if_icmp .eq 11, 3) := by decide +kernel
theorem dX2_readClosing_10 : decode cX2_readClosing 10 = .ok (.aload_n 0, 1) := by decide +kernel
theorem dX2_readClosing_11 : decode cX2_readClosing 11 = .ok (.iconst 4, 1) := by decide +kernel
theorem dX2_readClosing_12 : decode cX2_readClosing 12 = .ok (.invokevirtual 41, 3) := by decide +kernel
theorem dX2_readClosing_15 : decode cX2_readClosing 15 = .ok (.ifCond .ne 5, 3) := by decide +kernel
theorem dX2_readClosing_18 : decode cX2_readClosing 18 = .ok (.iconst 0, 1) := by decide +kernel
theorem dX2_readClosing_19 : decode cX2_readClosing 19 = .ok (.ireturn, 1) := by decide +kernel
theorem dX2_readClosing_20 : decode cX2_readClosing 20 = .ok (.aload_n 0, 1) := by decide +kernel
theorem dX2_readClosing_21 : decode cX2_readClosing 21 = .ok (.invokevirtual 45, 3) := by decide +kernel
theorem dX2_readClosing_24 : decode cX2_readClosing 24 = .ok (.istore_n 3, 1) := by decide +kernel
theorem dX2_readClosing_25 : decode cX2_readClosing 25 = .ok (.iload_n 3, 1) := by decide +kernel
theorem dX2_readClosing_26 : decode cX2_readClosing 26 = .ok (.iconst (-1), 1) := by decide +kernel
theorem dX2_readClosing_27 : decode cX2_readClosing 27 = .ok (.if_icmp .eq 11, 3) := by decide +kernel
theorem dX2_readClosing_30 : decode cX2_readClosing 30 = .ok (.aload_n 0, 1) := by decide +kernel
theorem dX2_readClosing_31 : decode cX2_readClosing 31 = .ok (.iconst 5, 1) := by decide +kernel
theorem dX2_readClosing_32 : decode cX2_readClosing 32 = .ok (.invokevirtual 41, 3) := by decide +kernel
theorem dX2_readClosing_35 : decode cX2_readClosing 35 = .ok (.ifCond .ne 5, 3) := by decide +kernel
theorem dX2_readClosing_38 : decode cX2_readClosing 38 = .ok (.iconst 0, 1) := by decide +kernel
theorem dX2_readClosing_39 : decode cX2_readClosing 39 = .ok (.ireturn, 1) := by decide +kernel
theorem dX2_readClosing_40 : decode cX2_readClosing 40 = .ok (.aload_n 0, 1) := by decide +kernel
theorem dX2_readClosing_41 : decode cX2_readClosing 41 = .ok (.invokevirtual 45, 3) := by decide +kernel
theorem dX2_readClosing_44 : decode cX2_readClosing 44 = .ok (.istore 4, 2) := by decide +kernel
theorem dX2_readClosing_46 : decode cX2_readClosing 46 = .ok (.iload 4, 2) := by decide +kernel
theorem dX2_readClosing_48 : decode cX2_readClosing 48 = .ok (.iconst (-1), 1) := by decide +kernel
theorem dX2_readClosing_49 : decode cX2_readClosing 49 = .ok (.if_icmp .eq 11, 3) := by decide +kernel
theorem dX2_readClosing_52 : decode cX2_readClosing 52 = .ok (.aload_n 0, 1) := by decide +kernel
theorem dX2_readClosing_53 : decode cX2_readClosing 53 = .ok (.iconst 4, 1) := by decide +kernel
theorem dX2_readClosing_54 : decode cX2_readClosing 54 = .ok (.invokevirtual 41, 3) := by decide +kernel
theorem dX2_readClosing_57 : decode cX2_readClosing 57 = .ok (.ifCond .ne 5, 3) := by decide +kernel
theorem dX2_readClosing_60 : decode cX2_readClosing 60 = .ok (.iconst 0, 1) := by decide +kernel
theorem dX2_readClosing_61 : decode cX2_readClosing 61 = .ok (.ireturn, 1) := by decide +kernel
theorem dX2_readClosing_62 : decode cX2_readClosing 62 = .ok (.aload_n 0, 1) := by decide +kernel
theorem dX2_readClosing_63 : decode cX2_readClosing 63 = .ok (.invokevirtual 45, 3) := by decide +kernel
theorem dX2_readClosing_66 : decode cX2_readClosing 66 = .ok (.istore 5, 2) := by decide +kernel
theorem dX2_readClosing_68 : decode cX2_readClosing 68 = .ok (.iload 5, 2) := by decide +kernel
theorem dX2_readClosing_70 : decode cX2_readClosing 70 = .ok (.iconst (-1), 1) := by decide +kernel
theorem dX2_readClosing_71 : decode cX2_readClosing 71 = .ok (.if_icmp .eq 12, 3) := by decide +kernel
theorem dX2_readClosing_74 : decode cX2_readClosing 74 = .ok (.aload_n 0, 1) := by decide +kernel
theorem dX2_readClosing_75 : decode cX2_readClosing 75 = .ok (.bipush 59, 2) := by decide +kernel
theorem dX2_readClosing_77 : decode cX2_readClosing 77 = .ok (.invokevirtual 41, 3) := by decide +kernel
theorem dX2_readClosing_80 : decode cX2_readClosing 80 = .ok (.ifCond .ne 5, 3) := by decide +kernel
theorem dX2_readClosing_83 : decode cX2_readClosing 83 = .ok (.iconst 0, 1) := by decide +kernel
theorem dX2_readClosing_84 : decode cX2_readClosing 84 = .ok (.ireturn, 1) := by decide +kernel
theorem dX2_readClosing_85 : decode cX2_readClosing 85 = .ok (.aload_n 1, 1) := by decide +kernel
theorem dX2_readClosing_86 : decode cX2_readClosing 86 = .ok (.iload_n 2, 1) := by decide +kernel
theorem dX2_readClosing_87 : decode cX2_readClosing 87 = .ok (.iload_n 3, 1) := by decide +kernel
theorem dX2_readClosing_88 : decode cX2_readClosing 88 = .ok (.iload 4, 2) := by decide +kernel
theorem dX2_readClosing_90 : decode cX2_readClosing 90 = .ok (.iload 5, 2) := by decide +kernel
theorem dX2_readClosing_92 : decode cX2_readClosing 92 = .ok (.invokevirtual 61, 3) := by decide +kernel
theorem dX2_readClosing_95 : decode cX2_readClosing 95 = .ok (.iconst 1, 1) := by decide +kernel
theorem dX2_readClosing_96 : decode cX2_readClosing 96 = .ok (.ireturn, 1) := by decide +kernel
theorem dX2_readRule_0 : decode cX2_readRule 0 = .ok (.iconst 0, 1) := by decide +kernel
theorem dX2_readRule_1 : decode cX2_readRule 1 = .ok (.istore_n 2, 1) := by decide +kernel
theorem dX2_readRule_2 : decode cX2_readRule 2 = .ok (.iload_n 2, 1) := by decide +kernel
theorem dX2_readRule_3 : decode cX2_readRule 3 = .ok (.iconst 3, 1) := by decide +kernel
theorem dX2_readRule_4 : decode cX2_readRule 4 = .ok (.if_icmp .ge 12, 3) := by decide +kernel
theorem dX2_readRule_7 : decode cX2_readRule 7 = .ok (.aload_n 0, 1) := by decide +kernel
theorem dX2_readRule_8 : decode cX2_readRule 8 = .ok (.aload_n 1, 1) := by decide +kernel
theorem dX2_readRule_9 : decode cX2_readRule 9 = .ok (.iload_n 2, 1) := by decide +kernel
theorem dX2_readRule_10 : decode cX2_readRule 10 = .ok (.invokevirtual 65, 3) := by decide +kernel
theorem dX2_readRule_13 : decode cX2_readRule 13 = .ok (.ifCond .ne 5, 3) := by decide +kernel
theorem dX2_readRule_16 : decode cX2_readRule 16 = .ok (.iconst 0, 1) := by decide +kernel
theorem dX2_readRule_17 : decode cX2_readRule 17 = .ok (.ireturn, 1) := by decide +kernel
theorem dX2_readRule_18 : decode cX2_readRule 18 = .ok (.iinc 2 1, 3) := by decide +kernel
theorem dX2_readRule_21 : decode cX2_readRule 21 = .ok (.aload_n 0, 1) := by decide +kernel
theorem dX2_readRule_22 : decode cX2_readRule 22 = .ok (.bipush 7, 2) := by decide +kernel
theorem dX2_readRule_24 : decode cX2_readRule 24 = .ok (.invokevirtual 41, 3) := by decide +kernel
theorem dX2_readRule_27 : decode cX2_readRule 27 = .ok (.ifCond .ne (-25), 3) := by decide +kernel
theorem dX2_readRule_30 : decode cX2_readRule 30 = .ok (.aload_n 0, 1) := by decide +kernel
theorem dX2_readRule_31 : decode cX2_readRule 31 = .ok (.bipush 8, 2) := by decide +kernel
theorem dX2_readRule_33 : decode cX2_readRule 33 = .ok (.invokevirtual 41, 3) := by decide +kernel
theorem dX2_readRule_36 : decode cX2_readRule 36 = .ok (.ifCond .ne 5, 3) := by decide +kernel
theorem dX2_readRule_39 : decode cX2_readRule 39 = .ok (.iconst 0, 1) := by decide +kernel
theorem dX2_readRule_40 : decode cX2_readRule 40 = .ok (.ireturn, 1) := by decide +kernel
theorem dX2_readRule_41 : decode cX2_readRule 41 = .ok (.aload_n 0, 1) := by decide +kernel
theorem dX2_readRule_42 : decode cX2_readRule 42 = .ok (.bipush 9, 2) := by decide +kernel
theorem dX2_readRule_44 : decode cX2_readRule 44 = .ok (.bipush 10, 2) := by decide +kernel
theorem dX2_readRule_46 : decode cX2_readRule 46 = .ok (.bipush 11, 2) := by decide +kernel
theorem dX2_readRule_48 : decode cX2_readRule 48 = .ok (.invokevirtual 69, 3) := by decide +kernel
theorem dX2_readRule_51 : decode cX2_readRule 51 = .ok (.istore_n 3, 1) := by decide +kernel
theorem dX2_readRule_52 : decode cX2_readRule 52 = .ok (.iload_n 3, 1) := by decide +kernel
theorem dX2_readRule_53 : decode cX2_readRule 53 = .ok (.iconst (-1), 1) := by decide +kernel
theorem dX2_readRule_54 : decode cX2_readRule 54 = .ok (.if_icmp .eq 12, 3) := by decide +kernel
theorem dX2_readRule_57 : decode cX2_readRule 57 = .ok (.aload_n 0, 1) := by decide +kernel
theorem dX2_readRule_58 : decode cX2_readRule 58 = .ok (.bipush 59, 2) := by decide +kernel
theorem dX2_readRule_60 : decode cX2_readRule 60 = .ok (.invokevirtual 41, 3) := by decide +kernel
theorem dX2_readRule_63 : decode cX2_readRule 63 = .ok (.ifCond .ne 5, 3) := by decide +kernel
theorem dX2_readRule_66 : decode cX2_readRule 66 = .ok (.iconst 0, 1) := by decide +kernel
theorem dX2_readRule_67 : decode cX2_readRule 67 = .ok (.ireturn, 1) := by decide +kernel
theorem dX2_readRule_68 : decode cX2_readRule 68 = .ok (.aload_n 1, 1) := by decide +kernel
theorem dX2_readRule_69 : decode cX2_readRule 69 = .ok (.iload_n 2, 1) := by decide +kernel
theorem dX2_readRule_70 : decode cX2_readRule 70 = .ok (.iload_n 3, 1) := by decide +kernel
theorem dX2_readRule_71 : decode cX2_readRule 71 = .ok (.invokevirtual 73, 3) := by decide +kernel
theorem dX2_readRule_74 : decode cX2_readRule 74 = .ok (.iconst 1, 1) := by decide +kernel
theorem dX2_readRule_75 : decode cX2_readRule 75 = .ok (.ireturn, 1) := by decide +kernel
theorem dX2_readTest_0 : decode cX2_readTest 0 = .ok (.aload_n 0, 1) := by decide +kernel
theorem dX2_readTest_1 : decode cX2_readTest 1 = .ok (.bipush 12, 2) := by decide +kernel
theorem dX2_readTest_3 : decode cX2_readTest 3 = .ok (.bipush 13, 2) := by decide +kernel
theorem dX2_readTest_5 : decode cX2_readTest 5 = .ok (.bipush 14, 2) := by decide +kernel
theorem dX2_readTest_7 : decode cX2_readTest 7 = .ok (.invokevirtual 69, 3) := by decide +kernel
theorem dX2_readTest_10 : decode cX2_readTest 10 = .ok (.istore_n 3, 1) := by decide +kernel
theorem dX2_readTest_11 : decode cX2_readTest 11 = .ok (.iload_n 3, 1) := by decide +kernel
theorem dX2_readTest_12 : decode cX2_readTest 12 = .ok (.iconst (-1), 1) := by decide +kernel
theorem dX2_readTest_13 : decode cX2_readTest 13 = .ok (.if_icmp .ne 5, 3) := by decide +kernel
theorem dX2_readTest_16 : decode cX2_readTest 16 = .ok (.iconst 0, 1) := by decide +kernel
theorem dX2_readTest_17 : decode cX2_readTest 17 = .ok (.ireturn, 1) := by decide +kernel
theorem dX2_readTest_18 : decode cX2_readTest 18 = .ok (.aload_n 0, 1) := by decide +kernel
theorem dX2_readTest_19 : decode cX2_readTest 19 = .ok (.bipush 60, 2) := by decide +kernel
theorem dX2_readTest_21 : decode cX2_readTest 21 = .ok (.bipush 62, 2) := by decide +kernel
theorem dX2_readTest_23 : decode cX2_readTest 23 = .ok (.bipush 61, 2) := by decide +kernel
theorem dX2_readTest_25 : decode cX2_readTest 25 = .ok (.invokevirtual 69, 3) := by decide +kernel
theorem dX2_readTest_28 : decode cX2_readTest 28 = .ok (.istore 4, 2) := by decide +kernel
theorem dX2_readTest_30 : decode cX2_readTest 30 = .ok (.iload 4, 2) := by decide +kernel
theorem dX2_readTest_32 : decode cX2_readTest 32 = .ok (.iconst (-1), 1) := by decide +kernel
theorem dX2_readTest_33 : decode cX2_readTest 33 = .ok (.if_icmp .ne 5, 3) := by decide +kernel
theorem dX2_readTest_36 : decode cX2_readTest 36 = .ok (.iconst 0, 1) := by decide +kernel
theorem dX2_readTest_37 : decode cX2_readTest 37 = .ok (.ireturn, 1) := by decide +kernel
theorem dX2_readTest_38 : decode cX2_readTest 38 = .ok (.aload_n 0, 1) := by decide +kernel
theorem dX2_readTest_39 : decode cX2_readTest 39 = .ok (.invokevirtual 45, 3) := by decide +kernel
theorem dX2_readTest_42 : decode cX2_readTest 42 = .ok (.istore 5, 2) := by decide +kernel
theorem dX2_readTest_44 : decode cX2_readTest 44 = .ok (.iload 5, 2) := by decide +kernel
theorem dX2_readTest_46 : decode cX2_readTest 46 = .ok (.iconst (-1), 1) := by decide +kernel
theorem dX2_readTest_47 : decode cX2_readTest 47 = .ok (.if_icmp .ne 5, 3) := by decide +kernel
theorem dX2_readTest_50 : decode cX2_readTest 50 = .ok (.iconst 0, 1) := by decide +kernel
theorem dX2_readTest_51 : decode cX2_readTest 51 = .ok (.ireturn, 1) := by decide +kernel
theorem dX2_readTest_52 : decode cX2_readTest 52 = .ok (.aload_n 1, 1) := by decide +kernel
theorem dX2_readTest_53 : decode cX2_readTest 53 = .ok (.iload_n 2, 1) := by decide +kernel
theorem dX2_readTest_54 : decode cX2_readTest 54 = .ok (.iload_n 3, 1) := by decide +kernel
theorem dX2_readTest_55 : decode cX2_readTest 55 = .ok (.iload 4, 2) := by decide +kernel
theorem dX2_readTest_57 : decode cX2_readTest 57 = .ok (.iload 5, 2) := by decide +kernel
theorem dX2_readTest_59 : decode cX2_readTest 59 = .ok (.invokevirtual 77, 3) := by decide +kernel
theorem dX2_readTest_62 : decode cX2_readTest 62 = .ok (.iconst 1, 1) := by decide +kernel
theorem dX2_readTest_63 : decode cX2_readTest 63 = .ok (.ireturn, 1) := by decide +kernel
theorem dX2_take_0 : decode cX2_take 0 = .ok (.aload_n 0, 1) := by decide +kernel
theorem dX2_take_1 : decode cX2_take 1 = .ok (.getfield 20, 3) := by decide +kernel
theorem dX2_take_4 : decode cX2_take 4 = .ok (.aload_n 0, 1) := by decide +kernel
theorem dX2_take_5 : decode cX2_take 5 = .ok (.getfield 9, 3) := by decide +kernel
theorem dX2_take_8 : decode cX2_take 8 = .ok (.invokevirtual 30, 3) := by decide +kernel
theorem dX2_take_11 : decode cX2_take 11 = .ok (.iload_n 1, 1) := by decide +kernel
theorem dX2_take_12 : decode cX2_take 12 = .ok (.if_icmp .eq 5, 3) := by decide +kernel
theorem dX2_take_15 : decode cX2_take 15 = .ok (.iconst 0, 1) := by decide +kernel
theorem dX2_take_16 : decode cX2_take 16 = .ok (.ireturn, 1) := by decide +kernel
theorem dX2_take_17 : decode cX2_take 17 = .ok (.aload_n 0, 1) := by decide +kernel
theorem dX2_take_18 : decode cX2_take 18 = .ok (.dup, 1) := by decide +kernel
theorem dX2_take_19 : decode cX2_take 19 = .ok (.getfield 9, 3) := by decide +kernel
theorem dX2_take_22 : decode cX2_take 22 = .ok (.iconst 1, 1) := by decide +kernel
theorem dX2_take_23 : decode cX2_take 23 = .ok (.iadd, 1) := by decide +kernel
theorem dX2_take_24 : decode cX2_take 24 = .ok (.putfield 9, 3) := by decide +kernel
theorem dX2_take_27 : decode cX2_take 27 = .ok (.iconst 1, 1) := by decide +kernel
theorem dX2_take_28 : decode cX2_take 28 = .ok (.ireturn, 1) := by decide +kernel
theorem dX2_takeOneOf_0 : decode cX2_takeOneOf 0 = .ok (.aload_n 0, 1) := by decide +kernel
theorem dX2_takeOneOf_1 : decode cX2_takeOneOf 1 = .ok (.getfield 20, 3) := by decide +kernel
theorem dX2_takeOneOf_4 : decode cX2_takeOneOf 4 = .ok (.aload_n 0, 1) := by decide +kernel
theorem dX2_takeOneOf_5 : decode cX2_takeOneOf 5 = .ok (.getfield 9, 3) := by decide +kernel
theorem dX2_takeOneOf_8 : decode cX2_takeOneOf 8 = .ok (.invokevirtual 30, 3) := by decide +kernel
theorem dX2_takeOneOf_11 : decode cX2_takeOneOf 11 = .ok (.istore 4, 2) := by decide +kernel
theorem dX2_takeOneOf_13 : decode cX2_takeOneOf 13 = .ok (.iload 4, 2) := by decide +kernel
theorem dX2_takeOneOf_15 : decode cX2_takeOneOf 15 = .ok (.iload_n 1, 1) := by decide +kernel
theorem dX2_takeOneOf_16 : decode cX2_takeOneOf 16 = .ok (.if_icmp .eq 17, 3) := by decide +kernel
theorem dX2_takeOneOf_19 : decode cX2_takeOneOf 19 = .ok (.iload 4, 2) := by decide +kernel
theorem dX2_takeOneOf_21 : decode cX2_takeOneOf 21 = .ok (.iload_n 2, 1) := by decide +kernel
theorem dX2_takeOneOf_22 : decode cX2_takeOneOf 22 = .ok (.if_icmp .eq 11, 3) := by decide +kernel
theorem dX2_takeOneOf_25 : decode cX2_takeOneOf 25 = .ok (.iload 4, 2) := by decide +kernel
theorem dX2_takeOneOf_27 : decode cX2_takeOneOf 27 = .ok (.iload_n 3, 1) := by decide +kernel
theorem dX2_takeOneOf_28 : decode cX2_takeOneOf 28 = .ok (.if_icmp .eq 5, 3) := by decide +kernel
theorem dX2_takeOneOf_31 : decode cX2_takeOneOf 31 = .ok (.iconst (-1), 1) := by decide +kernel
theorem dX2_takeOneOf_32 : decode cX2_takeOneOf 32 = .ok (.ireturn, 1) := by decide +kernel
theorem dX2_takeOneOf_33 : decode cX2_takeOneOf 33 = .ok (.aload_n 0, 1) := by decide +kernel
theorem dX2_takeOneOf_34 : decode cX2_takeOneOf 34 = .ok (.dup, 1) := by decide +kernel
theorem dX2_takeOneOf_35 : decode cX2_takeOneOf 35 = .ok (.getfield 9, 3) := by decide +kernel
theorem dX2_takeOneOf_38 : decode cX2_takeOneOf 38 = .ok (.iconst 1, 1) := by decide +kernel
theorem dX2_takeOneOf_39 : decode cX2_takeOneOf 39 = .ok (.iadd, 1) := by decide +kernel
theorem dX2_takeOneOf_40 : decode cX2_takeOneOf 40 = .ok (.putfield 9, 3) := by decide +kernel
theorem dX2_takeOneOf_43 : decode cX2_takeOneOf 43 = .ok (.iload 4, 2) := by decide +kernel
theorem dX2_takeOneOf_45 : decode cX2_takeOneOf 45 = .ok (.ireturn, 1) := by decide +kernel
theorem dX2_takeNumber_0 : decode cX2_takeNumber 0 = .ok (.aload_n 0, 1) := by decide +kernel
theorem dX2_takeNumber_1 : decode cX2_takeNumber 1 = .ok (.getfield 20, 3) := by decide +kernel
theorem dX2_takeNumber_4 : decode cX2_takeNumber 4 = .ok (.aload_n 0, 1) := by decide +kernel
theorem dX2_takeNumber_5 : decode cX2_takeNumber 5 = .ok (.getfield 9, 3) := by decide +kernel
theorem dX2_takeNumber_8 : decode cX2_takeNumber 8 = .ok (.invokevirtual 30, 3) := by decide +kernel
theorem dX2_takeNumber_11 : decode cX2_takeNumber 11 = .ok (.bipush 15, 2) := by decide +kernel
theorem dX2_takeNumber_13 : decode cX2_takeNumber 13 = .ok (.if_icmp .eq 5, 3) := by decide +kernel
theorem dX2_takeNumber_16 : decode cX2_takeNumber 16 = .ok (.iconst (-1), 1) := by decide +kernel
theorem dX2_takeNumber_17 : decode cX2_takeNumber 17 = .ok (.ireturn, 1) := by decide +kernel
theorem dX2_takeNumber_18 : decode cX2_takeNumber 18 = .ok (.aload_n 0, 1) := by decide +kernel
theorem dX2_takeNumber_19 : decode cX2_takeNumber 19 = .ok (.dup, 1) := by decide +kernel
theorem dX2_takeNumber_20 : decode cX2_takeNumber 20 = .ok (.getfield 9, 3) := by decide +kernel
theorem dX2_takeNumber_23 : decode cX2_takeNumber 23 = .ok (.iconst 1, 1) := by decide +kernel
theorem dX2_takeNumber_24 : decode cX2_takeNumber 24 = .ok (.iadd, 1) := by decide +kernel
theorem dX2_takeNumber_25 : decode cX2_takeNumber 25 = .ok (.putfield 9, 3) := by decide +kernel
theorem dX2_takeNumber_28 : decode cX2_takeNumber 28 = .ok (.aload_n 0, 1) := by decide +kernel
theorem dX2_takeNumber_29 : decode cX2_takeNumber 29 = .ok (.getfield 20, 3) := by decide +kernel
theorem dX2_takeNumber_32 : decode cX2_takeNumber 32 = .ok (.aload_n 0, 1) := by decide +kernel
theorem dX2_takeNumber_33 : decode cX2_takeNumber 33 = .ok (.getfield 9, 3) := by decide +kernel
theorem dX2_takeNumber_36 : decode cX2_takeNumber 36 = .ok (.iconst 1, 1) := by decide +kernel
theorem dX2_takeNumber_37 : decode cX2_takeNumber 37 = .ok (.isub, 1) := by decide +kernel
theorem dX2_takeNumber_38 : decode cX2_takeNumber 38 = .ok (.invokevirtual 80, 3) := by decide +kernel
theorem dX2_takeNumber_41 : decode cX2_takeNumber 41 = .ok (.ireturn, 1) := by decide +kernel
theorem dX3_init_0 : decode cX3_init 0 = .ok (.aload_n 0, 1) := by decide +kernel
theorem dX3_init_1 : decode cX3_init 1 = .ok (.invokespecial 3, 3) := by decide +kernel
theorem dX3_init_4 : decode cX3_init 4 = .ok (.aload_n 0, 1) := by decide +kernel
theorem dX3_init_5 : decode cX3_init 5 = .ok (.bipush 16, 2) := by decide +kernel
theorem dX3_init_7 : decode cX3_init 7 = .ok (.newarray .int, 2) := by decide +kernel
theorem dX3_init_9 : decode cX3_init 9 = .ok (.putfield 9, 3) := by decide +kernel
theorem dX3_init_12 : decode cX3_init 12 = .ok (.aload_n 0, 1) := by decide +kernel
theorem dX3_init_13 : decode cX3_init 13 = .ok (.bipush 16, 2) := by decide +kernel
theorem dX3_init_15 : decode cX3_init 15 = .ok (.newarray .int, 2) := by decide +kernel
theorem dX3_init_17 : decode cX3_init 17 = .ok (.putfield 15, 3) := by decide +kernel
theorem dX3_init_20 : decode cX3_init 20 = .ok (.aload_n 0, 1) := by decide +kernel
theorem dX3_init_21 : decode cX3_init 21 = .ok (.iconst 4, 1) := by decide +kernel
theorem dX3_init_22 : decode cX3_init 22 = .ok (.newarray .int, 2) := by decide +kernel
theorem dX3_init_24 : decode cX3_init 24 = .ok (.putfield 18, 3) := by decide +kernel
theorem dX3_init_27 : decode cX3_init 27 = .ok (.aload_n 0, 1) := by decide +kernel
theorem dX3_init_28 : decode cX3_init 28 = .ok (.iconst 4, 1) := by decide +kernel
theorem dX3_init_29 : decode cX3_init 29 = .ok (.newarray .int, 2) := by decide +kernel
theorem dX3_init_31 : decode cX3_init 31 = .ok (.putfield 21, 3) := by decide +kernel
theorem dX3_init_34 : decode cX3_init 34 = .ok (.aload_n 0, 1) := by decide +kernel
theorem dX3_init_35 : decode cX3_init 35 = .ok (.iconst 4, 1) := by decide +kernel
theorem dX3_init_36 : decode cX3_init 36 = .ok (.newarray .int, 2) := by decide +kernel
theorem dX3_init_38 : decode cX3_init 38 = .ok (.putfield 24, 3) := by decide +kernel
theorem dX3_init_41 : decode cX3_init 41 = .ok (.aload_n 0, 1) := by decide +kernel
theorem dX3_init_42 : decode cX3_init 42 = .ok (.iconst 1, 1) := by decide +kernel
theorem dX3_init_43 : decode cX3_init 43 = .ok (.putfield 27, 3) := by decide +kernel
theorem dX3_init_46 : decode cX3_init 46 = .ok (.aload_n 0, 1) := by decide +kernel
theorem dX3_init_47 : decode cX3_init 47 = .ok (.iconst 0, 1) := by decide +kernel
theorem dX3_init_48 : decode cX3_init 48 = .ok (.putfield 31, 3) := by decide +kernel
theorem dX3_init_51 : decode cX3_init 51 = .ok (.aload_n 0, 1) := by decide +kernel
theorem dX3_init_52 : decode cX3_init 52 = .ok (.iconst 0, 1) := by decide +kernel
theorem dX3_init_53 : decode cX3_init 53 = .ok (.putfield 34, 3) := by decide +kernel
theorem dX3_init_56 : decode cX3_init 56 = .ok (.return_, 1) := by decide +kernel
theorem dX3_search_0 : decode cX3_search 0 = .ok (.iload_n 3, 1) := by decide +kernel
theorem dX3_search_1 : decode cX3_search 1 = .ok (.iconst 1, 1) := by decide +kernel
theorem dX3_search_2 : decode cX3_search 2 = .ok (.iconst 3, 1) := by decide +kernel
theorem dX3_search_3 : decode cX3_search 3 = .ok (.invokestatic 37, 3) := by decide +kernel
theorem dX3_search_6 : decode cX3_search 6 = .ok (.ifCond .ne 4, 3) := by decide +kernel
theorem dX3_search_9 : decode cX3_search 9 = .ok (.return_, 1) := by decide +kernel
theorem dX3_search_10 : decode cX3_search 10 = .ok (.aload_n 0, 1) := by decide +kernel
theorem dX3_search_11 : decode cX3_search 11 = .ok (.iload_n 3, 1) := by decide +kernel
theorem dX3_search_12 : decode cX3_search 12 = .ok (.putfield 27, 3) := by decide +kernel
theorem dX3_search_15 : decode cX3_search 15 = .ok (.aload_n 0, 1) := by decide +kernel
theorem dX3_search_16 : decode cX3_search 16 = .ok (.aload_n 1, 1) := by decide +kernel
theorem dX3_search_17 : decode cX3_search 17 = .ok (.invokevirtual 41, 3) := by decide +kernel
theorem dX3_search_20 : decode cX3_search 20 = .ok (.aload_n 0, 1) := by decide +kernel
theorem dX3_search_21 : decode cX3_search 21 = .ok (.getfield 18, 3) := by decide +kernel
theorem dX3_search_24 : decode cX3_search 24 = .ok (.iconst 0, 1) := by decide +kernel
theorem dX3_search_25 : decode cX3_search 25 = .ok (.iload_n 2, 1) := by decide +kernel
theorem dX3_search_26 : decode cX3_search 26 = .ok (.iastore, 1) := by decide +kernel
theorem dX3_search_27 : decode cX3_search 27 = .ok (.iconst 1, 1) := by decide +kernel
theorem dX3_search_28 : decode cX3_search 28 = .ok (.iconst 4, 1) := by decide +kernel
theorem dX3_search_29 : decode cX3_search 29 = .ok (.aload_n 0, 1) := by decide +kernel
theorem dX3_search_30 : decode cX3_search 30 = .ok (.getfield 27, 3) := by decide +kernel
theorem dX3_search_33 : decode cX3_search 33 = .ok (.imul, 1) := by decide +kernel
theorem dX3_search_34 : decode cX3_search 34 = .ok (.ishl, 1) := by decide +kernel
theorem dX3_search_35 : decode cX3_search 35 = .ok (.istore 4, 2) := by decide +kernel
theorem dX3_search_37 : decode cX3_search 37 = .ok (.iconst 0, 1) := by decide +kernel
theorem dX3_search_38 : decode cX3_search 38 = .ok (.istore 5, 2) := by decide +kernel
theorem dX3_search_40 : decode cX3_search 40 = .ok (.iload 5, 2) := by decide +kernel
theorem dX3_search_42 : decode cX3_search 42 = .ok (.iload 4, 2) := by decide +kernel
theorem dX3_search_44 : decode cX3_search 44 = .ok (.if_icmp .ge 86, 3) := by decide +kernel
theorem dX3_search_47 : decode cX3_search 47 = .ok (.aload_n 0, 1) := by decide +kernel
theorem dX3_search_48 : decode cX3_search 48 = .ok (.iload 5, 2) := by decide +kernel
theorem dX3_search_50 : decode cX3_search 50 = .ok (.invokevirtual 45, 3) := by decide +kernel
theorem dX3_search_53 : decode cX3_search 53 = .ok (.istore 6, 2) := by decide +kernel
theorem dX3_search_55 : decode cX3_search 55 = .ok (.iload 6, 2) := by decide +kernel
theorem dX3_search_57 : decode cX3_search 57 = .ok (.aload_n 0, 1) := by decide +kernel
theorem dX3_search_58 : decode cX3_search 58 = .ok (.getfield 27, 3) := by decide +kernel
theorem dX3_search_61 : decode cX3_search 61 = .ok (.if_icmp .ge 23, 3) := by decide +kernel
theorem dX3_search_64 : decode cX3_search 64 = .ok (.aload_n 0, 1) := by decide +kernel
theorem dX3_search_65 : decode cX3_search 65 = .ok (.iload 6, 2) := by decide +kernel
theorem dX3_search_67 : decode cX3_search 67 = .ok (.aload_n 0, 1) := by decide +kernel
theorem dX3_search_68 : decode cX3_search 68 = .ok (.iload 5, 2) := by decide +kernel
theorem dX3_search_70 : decode cX3_search 70 = .ok (.iload 6, 2) := by decide +kernel
theorem dX3_search_72 : decode cX3_search 72 = .ok (.invokevirtual 49, 3) := by decide +kernel
theorem dX3_search_75 : decode cX3_search 75 = .ok (.invokevirtual 53, 3) := by decide +kernel
theorem dX3_search_78 : decode cX3_search 78 = .ok (.iinc 6 1, 3) := by decide +kernel
theorem dX3_search_81 : decode cX3_search 81 = .ok (.goto (-26), 3) := by decide +kernel
theorem dX3_search_84 : decode cX3_search 84 = .ok (.iload 5, 2) := by decide +kernel
theorem dX3_search_86 : decode cX3_search 86 = .ok (.ifCond .eq 19, 3) := by decide +kernel
theorem dX3_search_89 : decode cX3_search 89 = .ok (.aload_n 0, 1) := by decide +kernel
theorem dX3_search_90 : decode cX3_search 90 = .ok (.getfield 24, 3) := by decide +kernel
theorem dX3_search_93 : decode cX3_search 93 = .ok (.aload_n 0, 1) := by decide +kernel
theorem dX3_search_94 : decode cX3_search 94 = .ok (.getfield 27, 3) := by decide +kernel
theorem dX3_search_97 : decode cX3_search 97 = .ok (.iaload, 1) := by decide +kernel
theorem dX3_search_98 : decode cX3_search 98 = .ok (.aload_n 0, 1) := by decide +kernel
theorem dX3_search_99 : decode cX3_search 99 = .ok (.getfield 34, 3) := by decide +kernel
theorem dX3_search_102 : decode cX3_search 102 = .ok (.if_icmp .le 22, 3) := by decide +kernel
theorem dX3_search_105 : decode cX3_search 105 = .ok (.aload_n 0, 1) := by decide +kernel
theorem dX3_search_106 : decode cX3_search 106 = .ok (.aload_n 0, 1) := by decide +kernel
theorem dX3_search_107 : decode cX3_search 107 = .ok (.getfield 24, 3) := by decide +kernel
theorem dX3_search_110 : decode cX3_search 110 = .ok (.aload_n 0, 1) := by decide +kernel
theorem dX3_search_111 : decode cX3_search 111 = .ok (.getfield 27, 3) := by decide +kernel
theorem dX3_search_114 : decode cX3_search 114 = .ok (.iaload, 1) := by decide +kernel
theorem dX3_search_115 : decode cX3_search 115 = .ok (.putfield 34, 3) := by decide +kernel
theorem dX3_search_118 : decode cX3_search 118 = .ok (.aload_n 0, 1) := by decide +kernel
theorem dX3_search_119 : decode cX3_search 119 = .ok (.iload 5, 2) := by decide +kernel
theorem dX3_search_121 : decode cX3_search 121 = .ok (.putfield 31, 3) := by decide +kernel
theorem dX3_search_124 : decode cX3_search 124 = .ok (.iinc 5 1, 3) := by decide +kernel
theorem dX3_search_127 : decode cX3_search 127 = .ok (.goto (-87), 3) := by decide +kernel
theorem dX3_search_130 : decode cX3_search 130 = .ok (.return_, 1) := by decide +kernel
theorem dX3_bestBay_0 : decode cX3_bestBay 0 = .ok (.iload_n 1, 1) := by decide +kernel
theorem dX3_bestBay_1 : decode cX3_bestBay 1 = .ok (.iconst 0, 1) := by decide +kernel
theorem dX3_bestBay_2 : decode cX3_bestBay 2 = .ok (.aload_n 0, 1) := by decide +kernel
theorem dX3_bestBay_3 : decode cX3_bestBay 3 = .ok (.getfield 27, 3) := by decide +kernel
theorem dX3_bestBay_6 : decode cX3_bestBay 6 = .ok (.iconst 1, 1) := by decide +kernel
theorem dX3_bestBay_7 : decode cX3_bestBay 7 = .ok (.isub, 1) := by decide +kernel
theorem dX3_bestBay_8 : decode cX3_bestBay 8 = .ok (.invokestatic 37, 3) := by decide +kernel
theorem dX3_bestBay_11 : decode cX3_bestBay 11 = .ok (.ifCond .eq 15, 3) := by decide +kernel
theorem dX3_bestBay_14 : decode cX3_bestBay 14 = .ok (.aload_n 0, 1) := by decide +kernel
theorem dX3_bestBay_15 : decode cX3_bestBay 15 = .ok (.aload_n 0, 1) := by decide +kernel
theorem dX3_bestBay_16 : decode cX3_bestBay 16 = .ok (.getfield 31, 3) := by decide +kernel
theorem dX3_bestBay_19 : decode cX3_bestBay 19 = .ok (.iload_n 1, 1) := by decide +kernel
theorem dX3_bestBay_20 : decode cX3_bestBay 20 = .ok (.invokevirtual 49, 3) := by decide +kernel
theorem dX3_bestBay_23 : decode cX3_bestBay 23 = .ok (.goto 4, 3) := by decide +kernel
theorem dX3_bestBay_26 : decode cX3_bestBay 26 = .ok (.iconst (-1), 1) := by decide +kernel
theorem dX3_bestBay_27 : decode cX3_bestBay 27 = .ok (.ireturn, 1) := by decide +kernel
theorem dX3_weigh_0 : decode cX3_weigh 0 = .ok (.iconst 0, 1) := by decide +kernel
theorem dX3_weigh_1 : decode cX3_weigh 1 = .ok (.istore_n 2, 1) := by decide +kernel
theorem dX3_weigh_2 : decode cX3_weigh 2 = .ok (.iload_n 2, 1) := by decide +kernel
theorem dX3_weigh_3 : decode cX3_weigh 3 = .ok (.bipush 16, 2) := by decide +kernel
theorem dX3_weigh_5 : decode cX3_weigh 5 = .ok (.if_icmp .ge 27, 3) := by decide +kernel
theorem dX3_weigh_8 : decode cX3_weigh 8 = .ok (.iload_n 2, 1) := by decide +kernel
theorem dX3_weigh_9 : decode cX3_weigh 9 = .ok (.aload_n 1, 1) := by decide +kernel
theorem dX3_weigh_10 : decode cX3_weigh 10 = .ok (.arraylength, 1) := by decide +kernel
theorem dX3_weigh_11 : decode cX3_weigh 11 = .ok (.if_icmp .ge 21, 3) := by decide +kernel
theorem dX3_weigh_14 : decode cX3_weigh 14 = .ok (.aload_n 0, 1) := by decide +kernel
theorem dX3_weigh_15 : decode cX3_weigh 15 = .ok (.getfield 15, 3) := by decide +kernel
theorem dX3_weigh_18 : decode cX3_weigh 18 = .ok (.iload_n 2, 1) := by decide +kernel
theorem dX3_weigh_19 : decode cX3_weigh 19 = .ok (.aload_n 1, 1) := by decide +kernel
theorem dX3_weigh_20 : decode cX3_weigh 20 = .ok (.iload_n 2, 1) := by decide +kernel
theorem dX3_weigh_21 : decode cX3_weigh 21 = .ok (.aaload, 1) := by decide +kernel
theorem dX3_weigh_22 : decode cX3_weigh 22 = .ok (.getfield 57, 3) := by decide +kernel
theorem dX3_weigh_25 : decode cX3_weigh 25 = .ok (.iastore, 1) := by decide +kernel
theorem dX3_weigh_26 : decode cX3_weigh 26 = .ok (.iinc 2 1, 3) := by decide +kernel
theorem dX3_weigh_29 : decode cX3_weigh 29 = .ok (.goto (-27), 3) := by decide +kernel
theorem dX3_weigh_32 : decode cX3_weigh 32 = .ok (.iconst 0, 1) := by decide +kernel
theorem dX3_weigh_33 : decode cX3_weigh 33 = .ok (.istore_n 2, 1) := by decide +kernel
theorem dX3_weigh_34 : decode cX3_weigh 34 = .ok (.iload_n 2, 1) := by decide +kernel
theorem dX3_weigh_35 : decode cX3_weigh 35 = .ok (.bipush 16, 2) := by decide +kernel
theorem dX3_weigh_37 : decode cX3_weigh 37 = .ok (.if_icmp .ge 21, 3) := by decide +kernel
theorem dX3_weigh_40 : decode cX3_weigh 40 = .ok (.aload_n 0, 1) := by decide +kernel
theorem dX3_weigh_41 : decode cX3_weigh 41 = .ok (.getfield 9, 3) := by decide +kernel
theorem dX3_weigh_44 : decode cX3_weigh 44 = .ok (.iload_n 2, 1) := by decide +kernel
theorem dX3_weigh_45 : decode cX3_weigh 45 = .ok (.aload_n 0, 1) := by decide +kernel
theorem dX3_weigh_46 : decode cX3_weigh 46 = .ok (.iload_n 2, 1) := by decide +kernel
theorem dX3_weigh_47 : decode cX3_weigh 47 = .ok (.iconst 0, 1) := by decide +kernel
theorem dX3_weigh_48 : decode cX3_weigh 48 = .ok (.invokevirtual 61, 3) := by decide +kernel
theorem dX3_weigh_51 : decode cX3_weigh 51 = .ok (.iastore, 1) := by decide +kernel
theorem dX3_weigh_52 : decode cX3_weigh 52 = .ok (.iinc 2 1, 3) := by decide +kernel
theorem dX3_weigh_55 : decode cX3_weigh 55 = .ok (.goto (-21), 3) := by decide +kernel
theorem dX3_weigh_58 : decode cX3_weigh 58 = .ok (.return_, 1) := by decide +kernel
theorem dX3_bayIn_0 : decode cX3_bayIn 0 = .ok (.iload_n 1, 1) := by decide +kernel
theorem dX3_bayIn_1 : decode cX3_bayIn 1 = .ok (.iconst 4, 1) := by decide +kernel
theorem dX3_bayIn_2 : decode cX3_bayIn 2 = .ok (.aload_n 0, 1) := by decide +kernel
theorem dX3_bayIn_3 : decode cX3_bayIn 3 = .ok (.getfield 27, 3) := by decide +kernel
theorem dX3_bayIn_6 : decode cX3_bayIn 6 = .ok (.iconst 1, 1) := by decide +kernel
theorem dX3_bayIn_7 : decode cX3_bayIn 7 = .ok (.isub, 1) := by decide +kernel
theorem dX3_bayIn_8 : decode cX3_bayIn 8 = .ok (.iload_n 2, 1) := by decide +kernel
theorem dX3_bayIn_9 : decode cX3_bayIn 9 = .ok (.isub, 1) := by decide +kernel
theorem dX3_bayIn_10 : decode cX3_bayIn 10 = .ok (.imul, 1) := by decide +kernel
theorem dX3_bayIn_11 : decode cX3_bayIn 11 = .ok (.ishr, 1) := by decide +kernel
theorem dX3_bayIn_12 : decode cX3_bayIn 12 = .ok (.bipush 15, 2) := by decide +kernel
theorem dX3_bayIn_14 : decode cX3_bayIn 14 = .ok (.iand, 1) := by decide +kernel
theorem dX3_bayIn_15 : decode cX3_bayIn 15 = .ok (.ireturn, 1) := by decide +kernel
theorem dX3_firstChanged_0 : decode cX3_firstChanged 0 = .ok (.aload_n 0, 1) := by decide +kernel
theorem dX3_firstChanged_1 : decode cX3_firstChanged 1 = .ok (.getfield 27, 3) := by decide +kernel
theorem dX3_firstChanged_4 : decode cX3_firstChanged 4 = .ok (.iconst 1, 1) := by decide +kernel
theorem dX3_firstChanged_5 : decode cX3_firstChanged 5 = .ok (.isub, 1) := by decide +kernel
theorem dX3_firstChanged_6 : decode cX3_firstChanged 6 = .ok (.istore_n 2, 1) := by decide +kernel
theorem dX3_firstChanged_7 : decode cX3_firstChanged 7 = .ok (.iload_n 2, 1) := by decide +kernel
theorem dX3_firstChanged_8 : decode cX3_firstChanged 8 = .ok (.ifCond .le 18, 3) := by decide +kernel
theorem dX3_firstChanged_11 : decode cX3_firstChanged 11 = .ok (.aload_n 0, 1) := by decide +kernel
theorem dX3_firstChanged_12 : decode cX3_firstChanged 12 = .ok (.iload_n 1, 1) := by decide +kernel
theorem dX3_firstChanged_13 : decode cX3_firstChanged 13 = .ok (.iload_n 2, 1) := by decide +kernel
theorem dX3_firstChanged_14 : decode cX3_firstChanged 14 = .ok (.invokevirtual 49, 3) := by decide +kernel
theorem dX3_firstChanged_17 : decode cX3_firstChanged 17 = .ok (.ifCond .ne 9, 3) := by decide +kernel
theorem dX3_firstChanged_20 : decode cX3_firstChanged 20 = .ok (.iinc 2 (-1), 3) := by decide +kernel
theorem dX3_firstChanged_23 : decode cX3_firstChanged 23 = .ok (.goto (-16), 3) := by decide +kernel
theorem dX3_firstChanged_26 : decode cX3_firstChanged 26 = .ok (.iload_n 2, 1) := by decide +kernel
theorem dX3_firstChanged_27 : decode cX3_firstChanged 27 = .ok (.ireturn, 1) := by decide +kernel
theorem dX3_layDay_0 : decode cX3_layDay 0 = .ok (.iload_n 1, 1) := by decide +kernel
theorem dX3_layDay_1 : decode cX3_layDay 1 = .ok (.iconst 0, 1) := by decide +kernel
theorem dX3_layDay_2 : decode cX3_layDay 2 = .ok (.iconst 2, 1) := by decide +kernel
theorem dX3_layDay_3 : decode cX3_layDay 3 = .ok (.invokestatic 37, 3) := by decide +kernel
theorem dX3_layDay_6 : decode cX3_layDay 6 = .ok (.ifCond .eq 10, 3) := by decide +kernel
theorem dX3_layDay_9 : decode cX3_layDay 9 = .ok (.iload_n 2, 1) := by decide +kernel
theorem dX3_layDay_10 : decode cX3_layDay 10 = .ok (.invokestatic 64, 3) := by decide +kernel
theorem dX3_layDay_13 : decode cX3_layDay 13 = .ok (.ifCond .ne 4, 3) := by decide +kernel
theorem dX3_layDay_16 : decode cX3_layDay 16 = .ok (.return_, 1) := by decide +kernel
theorem dX3_layDay_17 : decode cX3_layDay 17 = .ok (.iload_n 2, 1) := by decide +kernel
theorem dX3_layDay_18 : decode cX3_layDay 18 = .ok (.invokestatic 68, 3) := by decide +kernel
theorem dX3_layDay_21 : decode cX3_layDay 21 = .ok (.istore_n 3, 1) := by decide +kernel
theorem dX3_layDay_22 : decode cX3_layDay 22 = .ok (.aload_n 0, 1) := by decide +kernel
theorem dX3_layDay_23 : decode cX3_layDay 23 = .ok (.getfield 21, 3) := by decide +kernel
theorem dX3_layDay_26 : decode cX3_layDay 26 = .ok (.iload_n 1, 1) := by decide +kernel
theorem dX3_layDay_27 : decode cX3_layDay 27 = .ok (.iaload, 1) := by decide +kernel
theorem dX3_layDay_28 : decode cX3_layDay 28 = .ok (.iload_n 3, 1) := by decide +kernel
theorem dX3_layDay_29 : decode cX3_layDay 29 = .ok (.iand, 1) := by decide +kernel
theorem dX3_layDay_30 : decode cX3_layDay 30 = .ok (.ifCond .ne 12, 3) := by decide +kernel
theorem dX3_layDay_33 : decode cX3_layDay 33 = .ok (.aload_n 0, 1) := by decide +kernel
theorem dX3_layDay_34 : decode cX3_layDay 34 = .ok (.getfield 9, 3) := by decide +kernel
theorem dX3_layDay_37 : decode cX3_layDay 37 = .ok (.iload_n 2, 1) := by decide +kernel
theorem dX3_layDay_38 : decode cX3_layDay 38 = .ok (.iaload, 1) := by decide +kernel
theorem dX3_layDay_39 : decode cX3_layDay 39 = .ok (.goto 14, 3) := by decide +kernel
theorem dX3_layDay_42 : decode cX3_layDay 42 = .ok (.aload_n 0, 1) := by decide +kernel
theorem dX3_layDay_43 : decode cX3_layDay 43 = .ok (.iload_n 2, 1) := by decide +kernel
theorem dX3_layDay_44 : decode cX3_layDay 44 = .ok (.aload_n 0, 1) := by decide +kernel
theorem dX3_layDay_45 : decode cX3_layDay 45 = .ok (.getfield 21, 3) := by decide +kernel
theorem dX3_layDay_48 : decode cX3_layDay 48 = .ok (.iload_n 1, 1) := by decide +kernel
theorem dX3_layDay_49 : decode cX3_layDay 49 = .ok (.iaload, 1) := by decide +kernel
theorem dX3_layDay_50 : decode cX3_layDay 50 = .ok (.invokevirtual 61, 3) := by decide +kernel
theorem dX3_layDay_53 : decode cX3_layDay 53 = .ok (.istore 4, 2) := by decide +kernel
theorem dX3_layDay_55 : decode cX3_layDay 55 = .ok (.aload_n 0, 1) := by decide +kernel
theorem dX3_layDay_56 : decode cX3_layDay 56 = .ok (.getfield 24, 3) := by decide +kernel
theorem dX3_layDay_59 : decode cX3_layDay 59 = .ok (.iload_n 1, 1) := by decide +kernel
theorem dX3_layDay_60 : decode cX3_layDay 60 = .ok (.iconst 1, 1) := by decide +kernel
theorem dX3_layDay_61 : decode cX3_layDay 61 = .ok (.iadd, 1) := by decide +kernel
theorem dX3_layDay_62 : decode cX3_layDay 62 = .ok (.aload_n 0, 1) := by decide +kernel
theorem dX3_layDay_63 : decode cX3_layDay 63 = .ok (.getfield 24, 3) := by decide +kernel
theorem dX3_layDay_66 : decode cX3_layDay 66 = .ok (.iload_n 1, 1) := by decide +kernel
theorem dX3_layDay_67 : decode cX3_layDay 67 = .ok (.iaload, 1) := by decide +kernel
theorem dX3_layDay_68 : decode cX3_layDay 68 = .ok (.iload 4, 2) := by decide +kernel
theorem dX3_layDay_70 : decode cX3_layDay 70 = .ok (.iadd, 1) := by decide +kernel
theorem dX3_layDay_71 : decode cX3_layDay 71 = .ok (.iconst 5, 1) := by decide +kernel
theorem dX3_layDay_72 : decode cX3_layDay 72 = .ok (.iload_n 2, 1) := by decide +kernel
theorem dX3_layDay_73 : decode cX3_layDay 73 = .ok (.aload_n 0, 1) := by decide +kernel
theorem dX3_layDay_74 : decode cX3_layDay 74 = .ok (.getfield 18, 3) := by decide +kernel
theorem dX3_layDay_77 : decode cX3_layDay 77 = .ok (.iload_n 1, 1) := by decide +kernel
theorem dX3_layDay_78 : decode cX3_layDay 78 = .ok (.iaload, 1) := by decide +kernel
theorem dX3_layDay_79 : decode cX3_layDay 79 = .ok (.isub, 1) := by decide +kernel
theorem dX3_layDay_80 : decode cX3_layDay 80 = .ok (.invokestatic 71, 3) := by decide +kernel
theorem dX3_layDay_83 : decode cX3_layDay 83 = .ok (.imul, 1) := by decide +kernel
theorem dX3_layDay_84 : decode cX3_layDay 84 = .ok (.isub, 1) := by decide +kernel
theorem dX3_layDay_85 : decode cX3_layDay 85 = .ok (.iastore, 1) := by decide +kernel
theorem dX3_layDay_86 : decode cX3_layDay 86 = .ok (.aload_n 0, 1) := by decide +kernel
theorem dX3_layDay_87 : decode cX3_layDay 87 = .ok (.getfield 21, 3) := by decide +kernel
theorem dX3_layDay_90 : decode cX3_layDay 90 = .ok (.iload_n 1, 1) := by decide +kernel
theorem dX3_layDay_91 : decode cX3_layDay 91 = .ok (.iconst 1, 1) := by decide +kernel
theorem dX3_layDay_92 : decode cX3_layDay 92 = .ok (.iadd, 1) := by decide +kernel
theorem dX3_layDay_93 : decode cX3_layDay 93 = .ok (.aload_n 0, 1) := by decide +kernel
theorem dX3_layDay_94 : decode cX3_layDay 94 = .ok (.getfield 21, 3) := by decide +kernel
theorem dX3_layDay_97 : decode cX3_layDay 97 = .ok (.iload_n 1, 1) := by decide +kernel
theorem dX3_layDay_98 : decode cX3_layDay 98 = .ok (.iaload, 1) := by decide +kernel
theorem dX3_layDay_99 : decode cX3_layDay 99 = .ok (.iload_n 3, 1) := by decide +kernel
theorem dX3_layDay_100 : decode cX3_layDay 100 = .ok (.ior, 1) := by decide +kernel
theorem dX3_layDay_101 : decode cX3_layDay 101 = .ok (.iastore, 1) := by decide +kernel
theorem dX3_layDay_102 : decode cX3_layDay 102 = .ok (.aload_n 0, 1) := by decide +kernel
theorem dX3_layDay_103 : decode cX3_layDay 103 = .ok (.getfield 18, 3) := by decide +kernel
theorem dX3_layDay_106 : decode cX3_layDay 106 = .ok (.iload_n 1, 1) := by decide +kernel
theorem dX3_layDay_107 : decode cX3_layDay 107 = .ok (.iconst 1, 1) := by decide +kernel
theorem dX3_layDay_108 : decode cX3_layDay 108 = .ok (.iadd, 1) := by decide +kernel
theorem dX3_layDay_109 : decode cX3_layDay 109 = .ok (.iload_n 2, 1) := by decide +kernel
theorem dX3_layDay_110 : decode cX3_layDay 110 = .ok (.iastore, 1) := by decide +kernel
theorem dX3_layDay_111 : decode cX3_layDay 111 = .ok (.return_, 1) := by decide +kernel
theorem dX3_freshWeight_0 : decode cX3_freshWeight 0 = .ok (.iconst 0, 1) := by decide +kernel
theorem dX3_freshWeight_1 : decode cX3_freshWeight 1 = .ok (.istore_n 3, 1) := by decide +kernel
theorem dX3_freshWeight_2 : decode cX3_freshWeight 2 = .ok (.iconst 0, 1) := by decide +kernel
theorem dX3_freshWeight_3 : decode cX3_freshWeight 3 = .ok (.iload_n 1, 1) := by decide +kernel
theorem dX3_freshWeight_4 : decode cX3_freshWeight 4 = .ok (.iconst 1, 1) := by decide +kernel
theorem dX3_freshWeight_5 : decode cX3_freshWeight 5 = .ok (.isub, 1) := by decide +kernel
theorem dX3_freshWeight_6 : decode cX3_freshWeight 6 = .ok (.invokestatic 76, 3) := by decide +kernel
theorem dX3_freshWeight_9 : decode cX3_freshWeight 9 = .ok (.istore 4, 2) := by decide +kernel
theorem dX3_freshWeight_11 : decode cX3_freshWeight 11 = .ok (.iload 4, 2) := by decide +kernel
theorem dX3_freshWeight_13 : decode cX3_freshWeight 13 = .ok (.bipush 15, 2) := by decide +kernel
theorem dX3_freshWeight_15 : decode cX3_freshWeight 15 = .ok (.iload_n 1, 1) := by decide +kernel
theorem dX3_freshWeight_16 : decode cX3_freshWeight 16 = .ok (.iconst 1, 1) := by decide +kernel
theorem dX3_freshWeight_17 : decode cX3_freshWeight 17 = .ok (.iadd, 1) := by decide +kernel
theorem dX3_freshWeight_18 : decode cX3_freshWeight 18 = .ok (.invokestatic 79, 3) := by decide +kernel
theorem dX3_freshWeight_21 : decode cX3_freshWeight 21 = .ok (.if_icmp .gt 28, 3) := by decide +kernel
theorem dX3_freshWeight_24 : decode cX3_freshWeight 24 = .ok (.iload_n 2, 1) := by decide +kernel
theorem dX3_freshWeight_25 : decode cX3_freshWeight 25 = .ok (.iconst 1, 1) := by decide +kernel
theorem dX3_freshWeight_26 : decode cX3_freshWeight 26 = .ok (.iload 4, 2) := by decide +kernel
theorem dX3_freshWeight_28 : decode cX3_freshWeight 28 = .ok (.ishl, 1) := by decide +kernel
theorem dX3_freshWeight_29 : decode cX3_freshWeight 29 = .ok (.iand, 1) := by decide +kernel
theorem dX3_freshWeight_30 : decode cX3_freshWeight 30 = .ok (.ifCond .ne 13, 3) := by decide +kernel
theorem dX3_freshWeight_33 : decode cX3_freshWeight 33 = .ok (.iload_n 3, 1) := by decide +kernel
theorem dX3_freshWeight_34 : decode cX3_freshWeight 34 = .ok (.aload_n 0, 1) := by decide +kernel
theorem dX3_freshWeight_35 : decode cX3_freshWeight 35 = .ok (.getfield 15, 3) := by decide +kernel
theorem dX3_freshWeight_38 : decode cX3_freshWeight 38 = .ok (.iload 4, 2) := by decide +kernel
theorem dX3_freshWeight_40 : decode cX3_freshWeight 40 = .ok (.iaload, 1) := by decide +kernel
theorem dX3_freshWeight_41 : decode cX3_freshWeight 41 = .ok (.iadd, 1) := by decide +kernel
theorem dX3_freshWeight_42 : decode cX3_freshWeight 42 = .ok (.istore_n 3, 1) := by decide +kernel
theorem dX3_freshWeight_43 : decode cX3_freshWeight 43 = .ok (.iinc 4 1, 3) := by decide +kernel
theorem dX3_freshWeight_46 : decode cX3_freshWeight 46 = .ok (.goto (-35), 3) := by decide +kernel
theorem dX3_freshWeight_49 : decode cX3_freshWeight 49 = .ok (.iload_n 3, 1) := by decide +kernel
theorem dX3_freshWeight_50 : decode cX3_freshWeight 50 = .ok (.ireturn, 1) := by decide +kernel
theorem dX3_nearBits_0 : decode cX3_nearBits 0 = .ok (.bipush 7, 2) := by decide +kernel
theorem dX3_nearBits_2 : decode cX3_nearBits 2 = .ok (.iload_n 0, 1) := by decide +kernel
theorem dX3_nearBits_3 : decode cX3_nearBits 3 = .ok (.ishl, 1) := by decide +kernel
theorem dX3_nearBits_4 : decode cX3_nearBits 4 = .ok (.iconst 1, 1) := by decide +kernel
theorem dX3_nearBits_5 : decode cX3_nearBits 5 = .ok (.ishr, 1) := by decide +kernel
theorem dX3_nearBits_6 : decode cX3_nearBits 6 = .ok (.ireturn, 1) := by decide +kernel
theorem dX4_init_0 : decode cX4_init 0 = .ok (.aload_n 0, 1) := by decide +kernel
theorem dX4_init_1 : decode cX4_init 1 = .ok (.invokespecial 1, 3) := by decide +kernel
theorem dX4_init_4 : decode cX4_init 4 = .ok (.aload_n 0, 1) := by decide +kernel
theorem dX4_init_5 : decode cX4_init 5 = .ok (.iconst 0, 1) := by decide +kernel
theorem dX4_init_6 : decode cX4_init 6 = .ok (.putfield 7, 3) := by decide +kernel
theorem dX4_init_9 : decode cX4_init 9 = .ok (.aload_n 0, 1) := by decide +kernel
theorem dX4_init_10 : decode cX4_init 10 = .ok (.iconst 0, 1) := by decide +kernel
theorem dX4_init_11 : decode cX4_init 11 = .ok (.putfield 13, 3) := by decide +kernel
theorem dX4_init_14 : decode cX4_init 14 = .ok (.aload_n 0, 1) := by decide +kernel
theorem dX4_init_15 : decode cX4_init 15 = .ok (.iconst 0, 1) := by decide +kernel
theorem dX4_init_16 : decode cX4_init 16 = .ok (.putfield 16, 3) := by decide +kernel
theorem dX4_init_19 : decode cX4_init 19 = .ok (.aload_n 0, 1) := by decide +kernel
theorem dX4_init_20 : decode cX4_init 20 = .ok (.iconst 0, 1) := by decide +kernel
theorem dX4_init_21 : decode cX4_init 21 = .ok (.putfield 19, 3) := by decide +kernel
theorem dX4_init_24 : decode cX4_init 24 = .ok (.aload_n 0, 1) := by decide +kernel
theorem dX4_init_25 : decode cX4_init 25 = .ok (.iconst 0, 1) := by decide +kernel
theorem dX4_init_26 : decode cX4_init 26 = .ok (.putfield 22, 3) := by decide +kernel
theorem dX4_init_29 : decode cX4_init 29 = .ok (.return_, 1) := by decide +kernel
theorem dX4_takeWanted_0 : decode cX4_takeWanted 0 = .ok (.aload_n 0, 1) := by decide +kernel
theorem dX4_takeWanted_1 : decode cX4_takeWanted 1 = .ok (.getfield 7, 3) := by decide +kernel
theorem dX4_takeWanted_4 : decode cX4_takeWanted 4 = .ok (.istore_n 3, 1) := by decide +kernel
theorem dX4_takeWanted_5 : decode cX4_takeWanted 5 = .ok (.iload_n 3, 1) := by decide +kernel
theorem dX4_takeWanted_6 : decode cX4_takeWanted 6 = .ok (.aload_n 0, 1) := by decide +kernel
theorem dX4_takeWanted_7 : decode cX4_takeWanted 7 = .ok (.getfield 13, 3) := by decide +kernel
theorem dX4_takeWanted_10 : decode cX4_takeWanted 10 = .ok (.invokestatic 25, 3) := by decide +kernel
theorem dX4_takeWanted_13 : decode cX4_takeWanted 13 = .ok (.istore 4, 2) := by decide +kernel
theorem dX4_takeWanted_15 : decode cX4_takeWanted 15 = .ok (.aload_n 0, 1) := by decide +kernel
theorem dX4_takeWanted_16 : decode cX4_takeWanted 16 = .ok (.dup, 1) := by decide +kernel
theorem dX4_takeWanted_17 : decode cX4_takeWanted 17 = .ok (.getfield 13, 3) := by decide +kernel
theorem dX4_takeWanted_20 : decode cX4_takeWanted 20 = .ok (.iload 4, 2) := by decide +kernel
theorem dX4_takeWanted_22 : decode cX4_takeWanted 22 = .ok (.isub, 1) := by decide +kernel
theorem dX4_takeWanted_23 : decode cX4_takeWanted 23 = .ok (.putfield 13, 3) := by decide +kernel
theorem dX4_takeWanted_26 : decode cX4_takeWanted 26 = .ok (.iload_n 3, 1) := by decide +kernel
theorem dX4_takeWanted_27 : decode cX4_takeWanted 27 = .ok (.iload 4, 2) := by decide +kernel
theorem dX4_takeWanted_29 : decode cX4_takeWanted 29 = .ok (.isub, 1) := by decide +kernel
theorem dX4_takeWanted_30 : decode cX4_takeWanted 30 = .ok (.istore_n 3, 1) := by decide +kernel
theorem dX4_takeWanted_31 : decode cX4_takeWanted 31 = .ok (.iconst 0, 1) := by decide +kernel
theorem dX4_takeWanted_32 : decode cX4_takeWanted 32 = .ok (.istore 5, 2) := by decide +kernel
theorem dX4_takeWanted_34 : decode cX4_takeWanted 34 = .ok (.iload 5, 2) := by decide +kernel
theorem dX4_takeWanted_36 : decode cX4_takeWanted 36 = .ok (.iload_n 2, 1) := by decide +kernel
theorem dX4_takeWanted_37 : decode cX4_takeWanted 37 = .ok (.if_icmp .ge 58, 3) := by decide +kernel
theorem dX4_takeWanted_40 : decode cX4_takeWanted 40 = .ok (.iload 5, 2) := by decide +kernel
theorem dX4_takeWanted_42 : decode cX4_takeWanted 42 = .ok (.aload_n 1, 1) := by decide +kernel
theorem dX4_takeWanted_43 : decode cX4_takeWanted 43 = .ok (.arraylength, 1) := by decide +kernel
theorem dX4_takeWanted_44 : decode cX4_takeWanted 44 = .ok (.if_icmp .ge 51, 3) := by decide +kernel
theorem dX4_takeWanted_47 : decode cX4_takeWanted 47 = .ok (.aload_n 1, 1) := by decide +kernel
theorem dX4_takeWanted_48 : decode cX4_takeWanted 48 = .ok (.iload 5, 2) := by decide +kernel
theorem dX4_takeWanted_50 : decode cX4_takeWanted 50 = .ok (.aaload, 1) := by decide +kernel
theorem dX4_takeWanted_51 : decode cX4_takeWanted 51 = .ok (.getfield 31, 3) := by decide +kernel
theorem dX4_takeWanted_54 : decode cX4_takeWanted 54 = .ok (.ifCond .ne 35, 3) := by decide +kernel
theorem dX4_takeWanted_57 : decode cX4_takeWanted 57 = .ok (.iload_n 3, 1) := by decide +kernel
theorem dX4_takeWanted_58 : decode cX4_takeWanted 58 = .ok (.aload_n 1, 1) := by decide +kernel
theorem dX4_takeWanted_59 : decode cX4_takeWanted 59 = .ok (.iload 5, 2) := by decide +kernel
theorem dX4_takeWanted_61 : decode cX4_takeWanted 61 = .ok (.aaload, 1) := by decide +kernel
theorem dX4_takeWanted_62 : decode cX4_takeWanted 62 = .ok (.getfield 37, 3) := by decide +kernel
theorem dX4_takeWanted_65 : decode cX4_takeWanted 65 = .ok (.invokestatic 25, 3) := by decide +kernel
theorem dX4_takeWanted_68 : decode cX4_takeWanted 68 = .ok (.istore 4, 2) := by decide +kernel
theorem dX4_takeWanted_70 : decode cX4_takeWanted 70 = .ok (.aload_n 1, 1) := by decide +kernel
theorem dX4_takeWanted_71 : decode cX4_takeWanted 71 = .ok (.iload 5, 2) := by decide +kernel
theorem dX4_takeWanted_73 : decode cX4_takeWanted 73 = .ok (.aaload, 1) := by decide +kernel
theorem dX4_takeWanted_74 : decode cX4_takeWanted 74 = .ok (.dup, 1) := by decide +kernel
theorem dX4_takeWanted_75 : decode cX4_takeWanted 75 = .ok (.getfield 37, 3) := by decide +kernel
theorem dX4_takeWanted_78 : decode cX4_takeWanted 78 = .ok (.iload 4, 2) := by decide +kernel
theorem dX4_takeWanted_80 : decode cX4_takeWanted 80 = .ok (.isub, 1) := by decide +kernel
theorem dX4_takeWanted_81 : decode cX4_takeWanted 81 = .ok (.putfield 37, 3) := by decide +kernel
theorem dX4_takeWanted_84 : decode cX4_takeWanted 84 = .ok (.iload_n 3, 1) := by decide +kernel
theorem dX4_takeWanted_85 : decode cX4_takeWanted 85 = .ok (.iload 4, 2) := by decide +kernel
theorem dX4_takeWanted_87 : decode cX4_takeWanted 87 = .ok (.isub, 1) := by decide +kernel
theorem dX4_takeWanted_88 : decode cX4_takeWanted 88 = .ok (.istore_n 3, 1) := by decide +kernel
theorem dX4_takeWanted_89 : decode cX4_takeWanted 89 = .ok (.iinc 5 1, 3) := by decide +kernel
theorem dX4_takeWanted_92 : decode cX4_takeWanted 92 = .ok (.goto (-58), 3) := by decide +kernel
theorem dX4_takeWanted_95 : decode cX4_takeWanted 95 = .ok (.aload_n 0, 1) := by decide +kernel
theorem dX4_takeWanted_96 : decode cX4_takeWanted 96 = .ok (.dup, 1) := by decide +kernel
theorem dX4_takeWanted_97 : decode cX4_takeWanted 97 = .ok (.getfield 16, 3) := by decide +kernel
theorem dX4_takeWanted_100 : decode cX4_takeWanted 100 = .ok (.aload_n 0, 1) := by decide +kernel
theorem dX4_takeWanted_101 : decode cX4_takeWanted 101 = .ok (.getfield 7, 3) := by decide +kernel
theorem dX4_takeWanted_104 : decode cX4_takeWanted 104 = .ok (.iload_n 3, 1) := by decide +kernel
theorem dX4_takeWanted_105 : decode cX4_takeWanted 105 = .ok (.isub, 1) := by decide +kernel
theorem dX4_takeWanted_106 : decode cX4_takeWanted 106 = .ok (.iadd, 1) := by decide +kernel
theorem dX4_takeWanted_107 : decode cX4_takeWanted 107 = .ok (.putfield 16, 3) := by decide +kernel
theorem dX4_takeWanted_110 : decode cX4_takeWanted 110 = .ok (.aload_n 0, 1) := by decide +kernel
theorem dX4_takeWanted_111 : decode cX4_takeWanted 111 = .ok (.dup, 1) := by decide +kernel
theorem dX4_takeWanted_112 : decode cX4_takeWanted 112 = .ok (.getfield 19, 3) := by decide +kernel
theorem dX4_takeWanted_115 : decode cX4_takeWanted 115 = .ok (.iload_n 3, 1) := by decide +kernel
theorem dX4_takeWanted_116 : decode cX4_takeWanted 116 = .ok (.iadd, 1) := by decide +kernel
theorem dX4_takeWanted_117 : decode cX4_takeWanted 117 = .ok (.putfield 19, 3) := by decide +kernel
theorem dX4_takeWanted_120 : decode cX4_takeWanted 120 = .ok (.aload_n 0, 1) := by decide +kernel
theorem dX4_takeWanted_121 : decode cX4_takeWanted 121 = .ok (.iload_n 3, 1) := by decide +kernel
theorem dX4_takeWanted_122 : decode cX4_takeWanted 122 = .ok (.putfield 22, 3) := by decide +kernel
theorem dX4_takeWanted_125 : decode cX4_takeWanted 125 = .ok (.return_, 1) := by decide +kernel
theorem dX5_init_0 : decode cX5_init 0 = .ok (.aload_n 0, 1) := by decide +kernel
theorem dX5_init_1 : decode cX5_init 1 = .ok (.invokespecial 3, 3) := by decide +kernel
theorem dX5_init_4 : decode cX5_init 4 = .ok (.aload_n 0, 1) := by decide +kernel
theorem dX5_init_5 : decode cX5_init 5 = .ok (.iconst 0, 1) := by decide +kernel
theorem dX5_init_6 : decode cX5_init 6 = .ok (.putfield 9, 3) := by decide +kernel
theorem dX5_init_9 : decode cX5_init 9 = .ok (.aload_n 0, 1) := by decide +kernel
theorem dX5_init_10 : decode cX5_init 10 = .ok (.iconst 0, 1) := by decide +kernel
theorem dX5_init_11 : decode cX5_init 11 = .ok (.putfield 15, 3) := by decide +kernel
theorem dX5_init_14 : decode cX5_init 14 = .ok (.aload_n 0, 1) := by decide +kernel
theorem dX5_init_15 : decode cX5_init 15 = .ok (.bipush 10, 2) := by decide +kernel
theorem dX5_init_17 : decode cX5_init 17 = .ok (.putfield 18, 3) := by decide +kernel
theorem dX5_init_20 : decode cX5_init 20 = .ok (.aload_n 0, 1) := by decide +kernel
theorem dX5_init_21 : decode cX5_init 21 = .ok (.iconst (-1), 1) := by decide +kernel
theorem dX5_init_22 : decode cX5_init 22 = .ok (.putfield 21, 3) := by decide +kernel
theorem dX5_init_25 : decode cX5_init 25 = .ok (.aload_n 0, 1) := by decide +kernel
theorem dX5_init_26 : decode cX5_init 26 = .ok (.iconst 0, 1) := by decide +kernel
theorem dX5_init_27 : decode cX5_init 27 = .ok (.putfield 24, 3) := by decide +kernel
theorem dX5_init_30 : decode cX5_init 30 = .ok (.aload_n 0, 1) := by decide +kernel
theorem dX5_init_31 : decode cX5_init 31 = .ok (.iconst 0, 1) := by decide +kernel
theorem dX5_init_32 : decode cX5_init 32 = .ok (.putfield 28, 3) := by decide +kernel
theorem dX5_init_35 : decode cX5_init 35 = .ok (.aload_n 0, 1) := by decide +kernel
theorem dX5_init_36 : decode cX5_init 36 = .ok (.iconst (-1), 1) := by decide +kernel
theorem dX5_init_37 : decode cX5_init 37 = .ok (.putfield 31, 3) := by decide +kernel
theorem dX5_init_40 : decode cX5_init 40 = .ok (.aload_n 0, 1) := by decide +kernel
theorem dX5_init_41 : decode cX5_init 41 = .ok (.iconst 0, 1) := by decide +kernel
theorem dX5_init_42 : decode cX5_init 42 = .ok (.putfield 34, 3) := by decide +kernel
theorem dX5_init_45 : decode cX5_init 45 = .ok (.aload_n 0, 1) := by decide +kernel
theorem dX5_init_46 : decode cX5_init 46 = .ok (.iconst 0, 1) := by decide +kernel
theorem dX5_init_47 : decode cX5_init 47 = .ok (.putfield 37, 3) := by decide +kernel
theorem dX5_init_50 : decode cX5_init 50 = .ok (.return_, 1) := by decide +kernel
theorem dX5_takesPeat_0 : decode cX5_takesPeat 0 = .ok (.aload_n 0, 1) := by decide +kernel
theorem dX5_takesPeat_1 : decode cX5_takesPeat 1 = .ok (.getfield 24, 3) := by decide +kernel
theorem dX5_takesPeat_4 : decode cX5_takesPeat 4 = .ok (.ifCond .ne 14, 3) := by decide +kernel
theorem dX5_takesPeat_7 : decode cX5_takesPeat 7 = .ok (.aload_n 0, 1) := by decide +kernel
theorem dX5_takesPeat_8 : decode cX5_takesPeat 8 = .ok (.getfield 37, 3) := by decide +kernel
theorem dX5_takesPeat_11 : decode cX5_takesPeat 11 = .ok (.ifCond .ne 7, 3) := by decide +kernel
theorem dX5_takesPeat_14 : decode cX5_takesPeat 14 = .ok (.iconst 1, 1) := by decide +kernel
theorem dX5_takesPeat_15 : decode cX5_takesPeat 15 = .ok (.goto 4, 3) := by decide +kernel
theorem dX5_takesPeat_18 : decode cX5_takesPeat 18 = .ok (.iconst 0, 1) := by decide +kernel
theorem dX5_takesPeat_19 : decode cX5_takesPeat 19 = .ok (.ireturn, 1) := by decide +kernel
theorem dX5_add_0 : decode cX5_add 0 = .ok (.aload_n 0, 1) := by decide +kernel
theorem dX5_add_1 : decode cX5_add 1 = .ok (.getfield 9, 3) := by decide +kernel
theorem dX5_add_4 : decode cX5_add 4 = .ok (.iload_n 1, 1) := by decide +kernel
theorem dX5_add_5 : decode cX5_add 5 = .ok (.iadd, 1) := by decide +kernel
theorem dX5_add_6 : decode cX5_add 6 = .ok (.istore_n 3, 1) := by decide +kernel
theorem dX5_add_7 : decode cX5_add 7 = .ok (.iload_n 3, 1) := by decide +kernel
theorem dX5_add_8 : decode cX5_add 8 = .ok (.ifCond .le 22, 3) := by decide +kernel
theorem dX5_add_11 : decode cX5_add 11 = .ok (.aload_n 0, 1) := by decide +kernel
theorem dX5_add_12 : decode cX5_add 12 = .ok (.aload_n 0, 1) := by decide +kernel
theorem dX5_add_13 : decode cX5_add 13 = .ok (.getfield 9, 3) := by decide +kernel
theorem dX5_add_16 : decode cX5_add 16 = .ok (.aload_n 0, 1) := by decide +kernel
theorem dX5_add_17 : decode cX5_add 17 = .ok (.getfield 15, 3) := by decide +kernel
theorem dX5_add_20 : decode cX5_add 20 = .ok (.imul, 1) := by decide +kernel
theorem dX5_add_21 : decode cX5_add 21 = .ok (.iload_n 1, 1) := by decide +kernel
theorem dX5_add_22 : decode cX5_add 22 = .ok (.iload_n 2, 1) := by decide +kernel
theorem dX5_add_23 : decode cX5_add 23 = .ok (.imul, 1) := by decide +kernel
theorem dX5_add_24 : decode cX5_add 24 = .ok (.iadd, 1) := by decide +kernel
theorem dX5_add_25 : decode cX5_add 25 = .ok (.iload_n 3, 1) := by decide +kernel
theorem dX5_add_26 : decode cX5_add 26 = .ok (.idiv, 1) := by decide +kernel
theorem dX5_add_27 : decode cX5_add 27 = .ok (.putfield 15, 3) := by decide +kernel
theorem dX5_add_30 : decode cX5_add 30 = .ok (.aload_n 0, 1) := by decide +kernel
theorem dX5_add_31 : decode cX5_add 31 = .ok (.iload_n 3, 1) := by decide +kernel
theorem dX5_add_32 : decode cX5_add 32 = .ok (.putfield 9, 3) := by decide +kernel
theorem dX5_add_35 : decode cX5_add 35 = .ok (.return_, 1) := by decide +kernel
theorem dX5_glow_0 : decode cX5_glow 0 = .ok (.aload_n 0, 1) := by decide +kernel
theorem dX5_glow_1 : decode cX5_glow 1 = .ok (.getfield 9, 3) := by decide +kernel
theorem dX5_glow_4 : decode cX5_glow 4 = .ok (.ifCond .gt 5, 3) := by decide +kernel
theorem dX5_glow_7 : decode cX5_glow 7 = .ok (.iconst 0, 1) := by decide +kernel
theorem dX5_glow_8 : decode cX5_glow 8 = .ok (.ireturn, 1) := by decide +kernel
theorem dX5_glow_9 : decode cX5_glow 9 = .ok (.aload_n 0, 1) := by decide +kernel
theorem dX5_glow_10 : decode cX5_glow 10 = .ok (.getfield 24, 3) := by decide +kernel
theorem dX5_glow_13 : decode cX5_glow 13 = .ok (.ifCond .eq 27, 3) := by decide +kernel
theorem dX5_glow_16 : decode cX5_glow 16 = .ok (.iconst 1, 1) := by decide +kernel
theorem dX5_glow_17 : decode cX5_glow 17 = .ok (.aload_n 0, 1) := by decide +kernel
theorem dX5_glow_18 : decode cX5_glow 18 = .ok (.getfield 9, 3) := by decide +kernel
theorem dX5_glow_21 : decode cX5_glow 21 = .ok (.bipush 10, 2) := by decide +kernel
theorem dX5_glow_23 : decode cX5_glow 23 = .ok (.idiv, 1) := by decide +kernel
theorem dX5_glow_24 : decode cX5_glow 24 = .ok (.invokestatic 40, 3) := by decide +kernel
theorem dX5_glow_27 : decode cX5_glow 27 = .ok (.istore_n 3, 1) := by decide +kernel
theorem dX5_glow_28 : decode cX5_glow 28 = .ok (.aload_n 0, 1) := by decide +kernel
theorem dX5_glow_29 : decode cX5_glow 29 = .ok (.dup, 1) := by decide +kernel
theorem dX5_glow_30 : decode cX5_glow 30 = .ok (.getfield 9, 3) := by decide +kernel
theorem dX5_glow_33 : decode cX5_glow 33 = .ok (.iload_n 3, 1) := by decide +kernel
theorem dX5_glow_34 : decode cX5_glow 34 = .ok (.isub, 1) := by decide +kernel
theorem dX5_glow_35 : decode cX5_glow 35 = .ok (.putfield 9, 3) := by decide +kernel
theorem dX5_glow_38 : decode cX5_glow 38 = .ok (.iload_n 3, 1) := by decide +kernel
theorem dX5_glow_39 : decode cX5_glow 39 = .ok (.ireturn, 1) := by decide +kernel
theorem dX5_glow_40 : decode cX5_glow 40 = .ok (.aload_n 0, 1) := by decide +kernel
theorem dX5_glow_41 : decode cX5_glow 41 = .ok (.getfield 18, 3) := by decide +kernel
theorem dX5_glow_44 : decode cX5_glow 44 = .ok (.iconst 1, 1) := by decide +kernel
theorem dX5_glow_45 : decode cX5_glow 45 = .ok (.iadd, 1) := by decide +kernel
theorem dX5_glow_46 : decode cX5_glow 46 = .ok (.aload_n 0, 1) := by decide +kernel
theorem dX5_glow_47 : decode cX5_glow 47 = .ok (.getfield 9, 3) := by decide +kernel
theorem dX5_glow_50 : decode cX5_glow 50 = .ok (.sipush 500, 3) := by decide +kernel
theorem dX5_glow_53 : decode cX5_glow 53 = .ok (.idiv, 1) := by decide +kernel
theorem dX5_glow_54 : decode cX5_glow 54 = .ok (.iadd, 1) := by decide +kernel
theorem dX5_glow_55 : decode cX5_glow 55 = .ok (.aload_n 0, 1) := by decide +kernel
theorem dX5_glow_56 : decode cX5_glow 56 = .ok (.getfield 15, 3) := by decide +kernel
theorem dX5_glow_59 : decode cX5_glow 59 = .ok (.sipush 500, 3) := by decide +kernel
theorem dX5_glow_62 : decode cX5_glow 62 = .ok (.if_icmp .le 7, 3) := by decide +kernel
theorem dX5_glow_65 : decode cX5_glow 65 = .ok (.iconst 2, 1) := by decide +kernel
theorem dX5_glow_66 : decode cX5_glow 66 = .ok (.goto 4, 3) := by decide +kernel
theorem dX5_glow_69 : decode cX5_glow 69 = .ok (.iconst 0, 1) := by decide +kernel
theorem dX5_glow_70 : decode cX5_glow 70 = .ok (.iadd, 1) := by decide +kernel
theorem dX5_glow_71 : decode cX5_glow 71 = .ok (.iload_n 1, 1) := by decide +kernel
theorem dX5_glow_72 : decode cX5_glow 72 = .ok (.bipush 20, 2) := by decide +kernel
theorem dX5_glow_74 : decode cX5_glow 74 = .ok (.if_icmp .le 7, 3) := by decide +kernel
theorem dX5_glow_77 : decode cX5_glow 77 = .ok (.iconst 3, 1) := by decide +kernel
theorem dX5_glow_78 : decode cX5_glow 78 = .ok (.goto 4, 3) := by decide +kernel
theorem dX5_glow_81 : decode cX5_glow 81 = .ok (.iconst 0, 1) := by decide +kernel
theorem dX5_glow_82 : decode cX5_glow 82 = .ok (.isub, 1) := by decide +kernel
theorem dX5_glow_83 : decode cX5_glow 83 = .ok (.istore_n 3, 1) := by decide +kernel
theorem dX5_glow_84 : decode cX5_glow 84 = .ok (.aload_n 0, 1) := by decide +kernel
theorem dX5_glow_85 : decode cX5_glow 85 = .ok (.bipush 100, 2) := by decide +kernel
theorem dX5_glow_87 : decode cX5_glow 87 = .ok (.bipush 10, 2) := by decide +kernel
theorem dX5_glow_89 : decode cX5_glow 89 = .ok (.iload_n 3, 1) := by decide +kernel
theorem dX5_glow_90 : decode cX5_glow 90 = .ok (.invokestatic 40, 3) := by decide +kernel
theorem dX5_glow_93 : decode cX5_glow 93 = .ok (.invokestatic 46, 3) := by decide +kernel
theorem dX5_glow_96 : decode cX5_glow 96 = .ok (.putfield 18, 3) := by decide +kernel
theorem dX5_glow_99 : decode cX5_glow 99 = .ok (.aload_n 0, 1) := by decide +kernel
theorem dX5_glow_100 : decode cX5_glow 100 = .ok (.getfield 18, 3) := by decide +kernel
theorem dX5_glow_103 : decode cX5_glow 103 = .ok (.bipush 100, 2) := by decide +kernel
theorem dX5_glow_105 : decode cX5_glow 105 = .ok (.if_icmp .ne 13, 3) := by decide +kernel
theorem dX5_glow_108 : decode cX5_glow 108 = .ok (.aload_n 0, 1) := by decide +kernel
theorem dX5_glow_109 : decode cX5_glow 109 = .ok (.iconst 1, 1) := by decide +kernel
theorem dX5_glow_110 : decode cX5_glow 110 = .ok (.putfield 24, 3) := by decide +kernel
theorem dX5_glow_113 : decode cX5_glow 113 = .ok (.aload_n 0, 1) := by decide +kernel
theorem dX5_glow_114 : decode cX5_glow 114 = .ok (.iload_n 2, 1) := by decide +kernel
theorem dX5_glow_115 : decode cX5_glow 115 = .ok (.putfield 31, 3) := by decide +kernel
theorem dX5_glow_118 : decode cX5_glow 118 = .ok (.iconst 0, 1) := by decide +kernel
theorem dX5_glow_119 : decode cX5_glow 119 = .ok (.ireturn, 1) := by decide +kernel
theorem dX5_turnOver_0 : decode cX5_turnOver 0 = .ok (.aload_n 0, 1) := by decide +kernel
theorem dX5_turnOver_1 : decode cX5_turnOver 1 = .ok (.bipush 10, 2) := by decide +kernel
theorem dX5_turnOver_3 : decode cX5_turnOver 3 = .ok (.aload_n 0, 1) := by decide +kernel
theorem dX5_turnOver_4 : decode cX5_turnOver 4 = .ok (.getfield 18, 3) := by decide +kernel
theorem dX5_turnOver_7 : decode cX5_turnOver 7 = .ok (.iconst 2, 1) := by decide +kernel
theorem dX5_turnOver_8 : decode cX5_turnOver 8 = .ok (.idiv, 1) := by decide +kernel
theorem dX5_turnOver_9 : decode cX5_turnOver 9 = .ok (.invokestatic 40, 3) := by decide +kernel
theorem dX5_turnOver_12 : decode cX5_turnOver 12 = .ok (.putfield 18, 3) := by decide +kernel
theorem dX5_turnOver_15 : decode cX5_turnOver 15 = .ok (.aload_n 0, 1) := by decide +kernel
theorem dX5_turnOver_16 : decode cX5_turnOver 16 = .ok (.dup, 1) := by decide +kernel
theorem dX5_turnOver_17 : decode cX5_turnOver 17 = .ok (.getfield 34, 3) := by decide +kernel
theorem dX5_turnOver_20 : decode cX5_turnOver 20 = .ok (.iconst 1, 1) := by decide +kernel
theorem dX5_turnOver_21 : decode cX5_turnOver 21 = .ok (.iadd, 1) := by decide +kernel
theorem dX5_turnOver_22 : decode cX5_turnOver 22 = .ok (.putfield 34, 3) := by decide +kernel
theorem dX5_turnOver_25 : decode cX5_turnOver 25 = .ok (.return_, 1) := by decide +kernel
theorem dX5_sendAway_0 : decode cX5_sendAway 0 = .ok (.aload_n 0, 1) := by decide +kernel
theorem dX5_sendAway_1 : decode cX5_sendAway 1 = .ok (.getfield 9, 3) := by decide +kernel
theorem dX5_sendAway_4 : decode cX5_sendAway 4 = .ok (.istore_n 1, 1) := by decide +kernel
theorem dX5_sendAway_5 : decode cX5_sendAway 5 = .ok (.aload_n 0, 1) := by decide +kernel
theorem dX5_sendAway_6 : decode cX5_sendAway 6 = .ok (.iconst 0, 1) := by decide +kernel
theorem dX5_sendAway_7 : decode cX5_sendAway 7 = .ok (.putfield 9, 3) := by decide +kernel
theorem dX5_sendAway_10 : decode cX5_sendAway 10 = .ok (.aload_n 0, 1) := by decide +kernel
theorem dX5_sendAway_11 : decode cX5_sendAway 11 = .ok (.iconst 1, 1) := by decide +kernel
theorem dX5_sendAway_12 : decode cX5_sendAway 12 = .ok (.putfield 37, 3) := by decide +kernel
theorem dX5_sendAway_15 : decode cX5_sendAway 15 = .ok (.iload_n 1, 1) := by decide +kernel
theorem dX5_sendAway_16 : decode cX5_sendAway 16 = .ok (.ireturn, 1) := by decide +kernel
theorem dX5_tellOf_0 : decode cX5_tellOf 0 = .ok (.iload_n 1, 1) := by decide +kernel
theorem dX5_tellOf_1 : decode cX5_tellOf 1 = .ok (.tableswitch 112 0 8 #[51, 56, 61, 66, 71, 84, 89, 94, 99], 51) := by decide +kernel
theorem dX5_tellOf_52 : decode cX5_tellOf 52 = .ok (.aload_n 0, 1) := by decide +kernel
theorem dX5_tellOf_53 : decode cX5_tellOf 53 = .ok (.getfield 9, 3) := by decide +kernel
theorem dX5_tellOf_56 : decode cX5_tellOf 56 = .ok (.ireturn, 1) := by decide +kernel
theorem dX5_tellOf_57 : decode cX5_tellOf 57 = .ok (.aload_n 0, 1) := by decide +kernel
theorem dX5_tellOf_58 : decode cX5_tellOf 58 = .ok (.getfield 15, 3) := by decide +kernel
theorem dX5_tellOf_61 : decode cX5_tellOf 61 = .ok (.ireturn, 1) := by decide +kernel
theorem dX5_tellOf_62 : decode cX5_tellOf 62 = .ok (.aload_n 0, 1) := by decide +kernel
theorem dX5_tellOf_63 : decode cX5_tellOf 63 = .ok (.getfield 18, 3) := by decide +kernel
theorem dX5_tellOf_66 : decode cX5_tellOf 66 = .ok (.ireturn, 1) := by decide +kernel
theorem dX5_tellOf_67 : decode cX5_tellOf 67 = .ok (.aload_n 0, 1) := by decide +kernel
theorem dX5_tellOf_68 : decode cX5_tellOf 68 = .ok (.getfield 21, 3) := by decide +kernel
theorem dX5_tellOf_71 : decode cX5_tellOf 71 = .ok (.ireturn, 1) := by decide +kernel
theorem dX5_tellOf_72 : decode cX5_tellOf 72 = .ok (.aload_n 0, 1) := by decide +kernel
theorem dX5_tellOf_73 : decode cX5_tellOf 73 = .ok (.getfield 24, 3) := by decide +kernel
theorem dX5_tellOf_76 : decode cX5_tellOf 76 = .ok (.ifCond .eq 7, 3) := by decide +kernel
theorem dX5_tellOf_79 : decode cX5_tellOf 79 = .ok (.iconst 1, 1) := by decide +kernel
theorem dX5_tellOf_80 : decode cX5_tellOf 80 = .ok (.goto 4, 3) := by decide +kernel
theorem dX5_tellOf_83 : decode cX5_tellOf 83 = .ok (.iconst 0, 1) := by decide +kernel
theorem dX5_tellOf_84 : decode cX5_tellOf 84 = .ok (.ireturn, 1) := by decide +kernel
end
section
theorem dX5_tellOf_85 : decode cX5_tellOf 85 = .ok (.aload_n 0, 1) := by decide +kernel
theorem dX5_tellOf_86 : decode cX5_tellOf 86 = .ok (.getfield 28, 3) := by decide +kernel
theorem dX5_tellOf_89 : decode cX5_tellOf 89 = .ok (.ireturn, 1) := by decide +kernel
theorem dX5_tellOf_90 : decode cX5_tellOf 90 = .ok (.aload_n 0, 1) := by decide +kernel
theorem dX5_tellOf_91 : decode cX5_tellOf 91 = .ok (.getfield 31, 3) := by decide +kernel
theorem dX5_tellOf_94 : decode cX5_tellOf 94 = .ok (.ireturn, 1) := by decide +kernel
theorem dX5_tellOf_95 : decode cX5_tellOf 95 = .ok (.aload_n 0, 1) := by decide +kernel
theorem dX5_tellOf_96 : decode cX5_tellOf 96 = .ok (.getfield 34, 3) := by decide +kernel
theorem dX5_tellOf_99 : decode cX5_tellOf 99 = .ok (.ireturn, 1) := by decide +kernel
theorem dX5_tellOf_100 : decode cX5_tellOf 100 = .ok (.aload_n 0, 1) := by decide +kernel
theorem dX5_tellOf_101 : decode cX5_tellOf 101 = .ok (.getfield 37, 3) := by decide +kernel
theorem dX5_tellOf_104 : decode cX5_tellOf 104 = .ok (.ifCond .eq 7, 3) := by decide +kernel
theorem dX5_tellOf_107 : decode cX5_tellOf 107 = .ok (.iconst 1, 1) := by decide +kernel
theorem dX5_tellOf_108 : decode cX5_tellOf 108 = .ok (.goto 4, 3) := by decide +kernel
theorem dX5_tellOf_111 : decode cX5_tellOf 111 = .ok (.iconst 0, 1) := by decide +kernel
theorem dX5_tellOf_112 : decode cX5_tellOf 112 = .ok (.ireturn, 1) := by decide +kernel
theorem dX5_tellOf_113 : decode cX5_tellOf 113 = .ok (.iconst (-1), 1) := by decide +kernel
theorem dX5_tellOf_114 : decode cX5_tellOf 114 = .ok (.ireturn, 1) := by decide +kernel
theorem dX6_init_0 : decode cX6_init 0 = .ok (.aload_n 0, 1) := by decide +kernel
theorem dX6_init_1 : decode cX6_init 1 = .ok (.invokespecial 1, 3) := by decide +kernel
theorem dX6_init_4 : decode cX6_init 4 = .ok (.aload_n 0, 1) := by decide +kernel
theorem dX6_init_5 : decode cX6_init 5 = .ok (.sipush 500, 3) := by decide +kernel
theorem dX6_init_8 : decode cX6_init 8 = .ok (.newarray .byte, 2) := by decide +kernel
theorem dX6_init_10 : decode cX6_init 10 = .ok (.putfield 9, 3) := by decide +kernel
theorem dX6_init_13 : decode cX6_init 13 = .ok (.aload_n 0, 1) := by decide +kernel
theorem dX6_init_14 : decode cX6_init 14 = .ok (.iconst 0, 1) := by decide +kernel
theorem dX6_init_15 : decode cX6_init 15 = .ok (.putfield 13, 3) := by decide +kernel
theorem dX6_init_18 : decode cX6_init 18 = .ok (.return_, 1) := by decide +kernel
theorem dX6_holdsMore_0 : decode cX6_holdsMore 0 = .ok (.aload_n 0, 1) := by decide +kernel
theorem dX6_holdsMore_1 : decode cX6_holdsMore 1 = .ok (.getfield 13, 3) := by decide +kernel
theorem dX6_holdsMore_4 : decode cX6_holdsMore 4 = .ok (.iload_n 1, 1) := by decide +kernel
theorem dX6_holdsMore_5 : decode cX6_holdsMore 5 = .ok (.iadd, 1) := by decide +kernel
theorem dX6_holdsMore_6 : decode cX6_holdsMore 6 = .ok (.sipush 500, 3) := by decide +kernel
theorem dX6_holdsMore_9 : decode cX6_holdsMore 9 = .ok (.if_icmp .gt 7, 3) := by decide +kernel
theorem dX6_holdsMore_12 : decode cX6_holdsMore 12 = .ok (.iconst 1, 1) := by decide +kernel
theorem dX6_holdsMore_13 : decode cX6_holdsMore 13 = .ok (.goto 4, 3) := by decide +kernel
theorem dX6_holdsMore_16 : decode cX6_holdsMore 16 = .ok (.iconst 0, 1) := by decide +kernel
theorem dX6_holdsMore_17 : decode cX6_holdsMore 17 = .ok (.ireturn, 1) := by decide +kernel
theorem dX6_add_0 : decode cX6_add 0 = .ok (.aload_n 0, 1) := by decide +kernel
theorem dX6_add_1 : decode cX6_add 1 = .ok (.iconst 4, 1) := by decide +kernel
theorem dX6_add_2 : decode cX6_add 2 = .ok (.invokevirtual 17, 3) := by decide +kernel
theorem dX6_add_5 : decode cX6_add 5 = .ok (.ifCond .ne 4, 3) := by decide +kernel
theorem dX6_add_8 : decode cX6_add 8 = .ok (.return_, 1) := by decide +kernel
theorem dX6_add_9 : decode cX6_add 9 = .ok (.bipush 24, 2) := by decide +kernel
theorem dX6_add_11 : decode cX6_add 11 = .ok (.istore_n 2, 1) := by decide +kernel
theorem dX6_add_12 : decode cX6_add 12 = .ok (.iload_n 2, 1) := by decide +kernel
theorem dX6_add_13 : decode cX6_add 13 = .ok (.ifCond .lt 32, 3) := by decide +kernel
theorem dX6_add_16 : decode cX6_add 16 = .ok (.aload_n 0, 1) := by decide +kernel
theorem dX6_add_17 : decode cX6_add 17 = .ok (.getfield 9, 3) := by decide +kernel
theorem dX6_add_20 : decode cX6_add 20 = .ok (.aload_n 0, 1) := by decide +kernel
theorem dX6_add_21 : decode cX6_add 21 = .ok (.getfield 13, 3) := by decide +kernel
theorem dX6_add_24 : decode cX6_add 24 = .ok (.iload_n 1, 1) := by decide +kernel
theorem dX6_add_25 : decode cX6_add 25 = .ok (.iload_n 2, 1) := by decide +kernel
theorem dX6_add_26 : decode cX6_add 26 = .ok (.ishr, 1) := by decide +kernel
theorem dX6_add_27 : decode cX6_add 27 = .ok (.i2b, 1) := by decide +kernel
theorem dX6_add_28 : decode cX6_add 28 = .ok (.bastore, 1) := by decide +kernel
theorem dX6_add_29 : decode cX6_add 29 = .ok (.aload_n 0, 1) := by decide +kernel
theorem dX6_add_30 : decode cX6_add 30 = .ok (.dup, 1) := by decide +kernel
theorem dX6_add_31 : decode cX6_add 31 = .ok (.getfield 13, 3) := by decide +kernel
theorem dX6_add_34 : decode cX6_add 34 = .ok (.iconst 1, 1) := by decide +kernel
theorem dX6_add_35 : decode cX6_add 35 = .ok (.iadd, 1) := by decide +kernel
theorem dX6_add_36 : decode cX6_add 36 = .ok (.putfield 13, 3) := by decide +kernel
theorem dX6_add_39 : decode cX6_add 39 = .ok (.iinc 2 (-8), 3) := by decide +kernel
theorem dX6_add_42 : decode cX6_add 42 = .ok (.goto (-30), 3) := by decide +kernel
theorem dX6_add_45 : decode cX6_add 45 = .ok (.return_, 1) := by decide +kernel
theorem dX6_at_0 : decode cX6_at 0 = .ok (.iload_n 1, 1) := by decide +kernel
theorem dX6_at_1 : decode cX6_at 1 = .ok (.ifCond .lt 24, 3) := by decide +kernel
theorem dX6_at_4 : decode cX6_at 4 = .ok (.iload_n 1, 1) := by decide +kernel
theorem dX6_at_5 : decode cX6_at 5 = .ok (.aload_n 0, 1) := by decide +kernel
theorem dX6_at_6 : decode cX6_at 6 = .ok (.getfield 13, 3) := by decide +kernel
theorem dX6_at_9 : decode cX6_at 9 = .ok (.if_icmp .ge 16, 3) := by decide +kernel
theorem dX6_at_12 : decode cX6_at 12 = .ok (.aload_n 0, 1) := by decide +kernel
theorem dX6_at_13 : decode cX6_at 13 = .ok (.getfield 9, 3) := by decide +kernel
theorem dX6_at_16 : decode cX6_at 16 = .ok (.iload_n 1, 1) := by decide +kernel
theorem dX6_at_17 : decode cX6_at 17 = .ok (.baload, 1) := by decide +kernel
theorem dX6_at_18 : decode cX6_at 18 = .ok (.sipush 255, 3) := by decide +kernel
theorem dX6_at_21 : decode cX6_at 21 = .ok (.iand, 1) := by decide +kernel
theorem dX6_at_22 : decode cX6_at 22 = .ok (.goto 4, 3) := by decide +kernel
theorem dX6_at_25 : decode cX6_at 25 = .ok (.iconst 0, 1) := by decide +kernel
theorem dX6_at_26 : decode cX6_at 26 = .ok (.ireturn, 1) := by decide +kernel
theorem dX7_init_0 : decode cX7_init 0 = .ok (.aload_n 0, 1) := by decide +kernel
theorem dX7_init_1 : decode cX7_init 1 = .ok (.invokespecial 1, 3) := by decide +kernel
theorem dX7_init_4 : decode cX7_init 4 = .ok (.aload_n 0, 1) := by decide +kernel
theorem dX7_init_5 : decode cX7_init 5 = .ok (.iconst 0, 1) := by decide +kernel
theorem dX7_init_6 : decode cX7_init 6 = .ok (.putfield 7, 3) := by decide +kernel
theorem dX7_init_9 : decode cX7_init 9 = .ok (.aload_n 0, 1) := by decide +kernel
theorem dX7_init_10 : decode cX7_init 10 = .ok (.sipush 500, 3) := by decide +kernel
theorem dX7_init_13 : decode cX7_init 13 = .ok (.newarray .int, 2) := by decide +kernel
theorem dX7_init_15 : decode cX7_init 15 = .ok (.putfield 15, 3) := by decide +kernel
theorem dX7_init_18 : decode cX7_init 18 = .ok (.aload_n 0, 1) := by decide +kernel
theorem dX7_init_19 : decode cX7_init 19 = .ok (.sipush 500, 3) := by decide +kernel
theorem dX7_init_22 : decode cX7_init 22 = .ok (.newarray .int, 2) := by decide +kernel
theorem dX7_init_24 : decode cX7_init 24 = .ok (.putfield 19, 3) := by decide +kernel
theorem dX7_init_27 : decode cX7_init 27 = .ok (.aload_n 0, 1) := by decide +kernel
theorem dX7_init_28 : decode cX7_init 28 = .ok (.sipush 500, 3) := by decide +kernel
theorem dX7_init_31 : decode cX7_init 31 = .ok (.newarray .int, 2) := by decide +kernel
theorem dX7_init_33 : decode cX7_init 33 = .ok (.putfield 22, 3) := by decide +kernel
theorem dX7_init_36 : decode cX7_init 36 = .ok (.aload_n 0, 1) := by decide +kernel
theorem dX7_init_37 : decode cX7_init 37 = .ok (.iconst 0, 1) := by decide +kernel
theorem dX7_init_38 : decode cX7_init 38 = .ok (.putfield 25, 3) := by decide +kernel
theorem dX7_init_41 : decode cX7_init 41 = .ok (.aload_n 0, 1) := by decide +kernel
theorem dX7_init_42 : decode cX7_init 42 = .ok (.aload_n 1, 1) := by decide +kernel
theorem dX7_init_43 : decode cX7_init 43 = .ok (.putfield 28, 3) := by decide +kernel
theorem dX7_init_46 : decode cX7_init 46 = .ok (.return_, 1) := by decide +kernel
theorem dX7_cut_0 : decode cX7_cut 0 = .ok (.aload_n 0, 1) := by decide +kernel
theorem dX7_cut_1 : decode cX7_cut 1 = .ok (.iconst 0, 1) := by decide +kernel
theorem dX7_cut_2 : decode cX7_cut 2 = .ok (.putfield 7, 3) := by decide +kernel
theorem dX7_cut_5 : decode cX7_cut 5 = .ok (.aload_n 0, 1) := by decide +kernel
theorem dX7_cut_6 : decode cX7_cut 6 = .ok (.iload_n 1, 1) := by decide +kernel
theorem dX7_cut_7 : decode cX7_cut 7 = .ok (.putfield 25, 3) := by decide +kernel
theorem dX7_cut_10 : decode cX7_cut 10 = .ok (.iconst 0, 1) := by decide +kernel
theorem dX7_cut_11 : decode cX7_cut 11 = .ok (.istore_n 2, 1) := by decide +kernel
theorem dX7_cut_12 : decode cX7_cut 12 = .ok (.iload_n 2, 1) := by decide +kernel
theorem dX7_cut_13 : decode cX7_cut 13 = .ok (.iload_n 1, 1) := by decide +kernel
theorem dX7_cut_14 : decode cX7_cut 14 = .ok (.if_icmp .ge 145, 3) := by decide +kernel
theorem dX7_cut_17 : decode cX7_cut 17 = .ok (.iload_n 2, 1) := by decide +kernel
theorem dX7_cut_18 : decode cX7_cut 18 = .ok (.iconst 1, 1) := by decide +kernel
theorem dX7_cut_19 : decode cX7_cut 19 = .ok (.iadd, 1) := by decide +kernel
theorem dX7_cut_20 : decode cX7_cut 20 = .ok (.istore_n 3, 1) := by decide +kernel
theorem dX7_cut_21 : decode cX7_cut 21 = .ok (.aload_n 0, 1) := by decide +kernel
theorem dX7_cut_22 : decode cX7_cut 22 = .ok (.getfield 28, 3) := by decide +kernel
theorem dX7_cut_25 : decode cX7_cut 25 = .ok (.iload_n 2, 1) := by decide +kernel
theorem dX7_cut_26 : decode cX7_cut 26 = .ok (.invokevirtual 32, 3) := by decide +kernel
theorem dX7_cut_29 : decode cX7_cut 29 = .ok (.invokestatic 36, 3) := by decide +kernel
theorem dX7_cut_32 : decode cX7_cut 32 = .ok (.ifCond .eq 43, 3) := by decide +kernel
theorem dX7_cut_35 : decode cX7_cut 35 = .ok (.iload_n 3, 1) := by decide +kernel
theorem dX7_cut_36 : decode cX7_cut 36 = .ok (.iload_n 1, 1) := by decide +kernel
theorem dX7_cut_37 : decode cX7_cut 37 = .ok (.if_icmp .ge 23, 3) := by decide +kernel
theorem dX7_cut_40 : decode cX7_cut 40 = .ok (.aload_n 0, 1) := by decide +kernel
theorem dX7_cut_41 : decode cX7_cut 41 = .ok (.getfield 28, 3) := by decide +kernel
theorem dX7_cut_44 : decode cX7_cut 44 = .ok (.iload_n 3, 1) := by decide +kernel
theorem dX7_cut_45 : decode cX7_cut 45 = .ok (.invokevirtual 32, 3) := by decide +kernel
theorem dX7_cut_48 : decode cX7_cut 48 = .ok (.invokestatic 36, 3) := by decide +kernel
theorem dX7_cut_51 : decode cX7_cut 51 = .ok (.ifCond .eq 9, 3) := by decide +kernel
theorem dX7_cut_54 : decode cX7_cut 54 = .ok (.iinc 3 1, 3) := by decide +kernel
theorem dX7_cut_57 : decode cX7_cut 57 = .ok (.goto (-22), 3) := by decide +kernel
theorem dX7_cut_60 : decode cX7_cut 60 = .ok (.aload_n 0, 1) := by decide +kernel
theorem dX7_cut_61 : decode cX7_cut 61 = .ok (.aload_n 0, 1) := by decide +kernel
theorem dX7_cut_62 : decode cX7_cut 62 = .ok (.iload_n 2, 1) := by decide +kernel
theorem dX7_cut_63 : decode cX7_cut 63 = .ok (.iload_n 3, 1) := by decide +kernel
theorem dX7_cut_64 : decode cX7_cut 64 = .ok (.invokevirtual 40, 3) := by decide +kernel
theorem dX7_cut_67 : decode cX7_cut 67 = .ok (.iload_n 2, 1) := by decide +kernel
theorem dX7_cut_68 : decode cX7_cut 68 = .ok (.iconst 0, 1) := by decide +kernel
theorem dX7_cut_69 : decode cX7_cut 69 = .ok (.invokevirtual 44, 3) := by decide +kernel
theorem dX7_cut_72 : decode cX7_cut 72 = .ok (.goto 82, 3) := by decide +kernel
theorem dX7_cut_75 : decode cX7_cut 75 = .ok (.aload_n 0, 1) := by decide +kernel
theorem dX7_cut_76 : decode cX7_cut 76 = .ok (.getfield 28, 3) := by decide +kernel
theorem dX7_cut_79 : decode cX7_cut 79 = .ok (.iload_n 2, 1) := by decide +kernel
theorem dX7_cut_80 : decode cX7_cut 80 = .ok (.invokevirtual 32, 3) := by decide +kernel
theorem dX7_cut_83 : decode cX7_cut 83 = .ok (.invokestatic 48, 3) := by decide +kernel
theorem dX7_cut_86 : decode cX7_cut 86 = .ok (.ifCond .eq 37, 3) := by decide +kernel
theorem dX7_cut_89 : decode cX7_cut 89 = .ok (.iload_n 3, 1) := by decide +kernel
theorem dX7_cut_90 : decode cX7_cut 90 = .ok (.iload_n 1, 1) := by decide +kernel
theorem dX7_cut_91 : decode cX7_cut 91 = .ok (.if_icmp .ge 23, 3) := by decide +kernel
theorem dX7_cut_94 : decode cX7_cut 94 = .ok (.aload_n 0, 1) := by decide +kernel
theorem dX7_cut_95 : decode cX7_cut 95 = .ok (.getfield 28, 3) := by decide +kernel
theorem dX7_cut_98 : decode cX7_cut 98 = .ok (.iload_n 3, 1) := by decide +kernel
theorem dX7_cut_99 : decode cX7_cut 99 = .ok (.invokevirtual 32, 3) := by decide +kernel
theorem dX7_cut_102 : decode cX7_cut 102 = .ok (.invokestatic 48, 3) := by decide +kernel
theorem dX7_cut_105 : decode cX7_cut 105 = .ok (.ifCond .eq 9, 3) := by decide +kernel
theorem dX7_cut_108 : decode cX7_cut 108 = .ok (.iinc 3 1, 3) := by decide +kernel
theorem dX7_cut_111 : decode cX7_cut 111 = .ok (.goto (-22), 3) := by decide +kernel
theorem dX7_cut_114 : decode cX7_cut 114 = .ok (.aload_n 0, 1) := by decide +kernel
theorem dX7_cut_115 : decode cX7_cut 115 = .ok (.iload_n 2, 1) := by decide +kernel
theorem dX7_cut_116 : decode cX7_cut 116 = .ok (.iload_n 3, 1) := by decide +kernel
theorem dX7_cut_117 : decode cX7_cut 117 = .ok (.invokevirtual 51, 3) := by decide +kernel
theorem dX7_cut_120 : decode cX7_cut 120 = .ok (.goto 34, 3) := by decide +kernel
theorem dX7_cut_123 : decode cX7_cut 123 = .ok (.aload_n 0, 1) := by decide +kernel
theorem dX7_cut_124 : decode cX7_cut 124 = .ok (.getfield 28, 3) := by decide +kernel
theorem dX7_cut_127 : decode cX7_cut 127 = .ok (.iload_n 2, 1) := by decide +kernel
theorem dX7_cut_128 : decode cX7_cut 128 = .ok (.invokevirtual 32, 3) := by decide +kernel
theorem dX7_cut_131 : decode cX7_cut 131 = .ok (.invokestatic 55, 3) := by decide +kernel
theorem dX7_cut_134 : decode cX7_cut 134 = .ok (.ifCond .ne 20, 3) := by decide +kernel
theorem dX7_cut_137 : decode cX7_cut 137 = .ok (.aload_n 0, 1) := by decide +kernel
theorem dX7_cut_138 : decode cX7_cut 138 = .ok (.aload_n 0, 1) := by decide +kernel
theorem dX7_cut_139 : decode cX7_cut 139 = .ok (.getfield 28, 3) := by decide +kernel
theorem dX7_cut_142 : decode cX7_cut 142 = .ok (.iload_n 2, 1) := by decide +kernel
theorem dX7_cut_143 : decode cX7_cut 143 = .ok (.invokevirtual 32, 3) := by decide +kernel
theorem dX7_cut_146 : decode cX7_cut 146 = .ok (.invokestatic 58, 3) := by decide +kernel
theorem dX7_cut_149 : decode cX7_cut 149 = .ok (.iload_n 2, 1) := by decide +kernel
theorem dX7_cut_150 : decode cX7_cut 150 = .ok (.iconst 0, 1) := by decide +kernel
theorem dX7_cut_151 : decode cX7_cut 151 = .ok (.invokevirtual 44, 3) := by decide +kernel
theorem dX7_cut_154 : decode cX7_cut 154 = .ok (.iload_n 3, 1) := by decide +kernel
theorem dX7_cut_155 : decode cX7_cut 155 = .ok (.istore_n 2, 1) := by decide +kernel
theorem dX7_cut_156 : decode cX7_cut 156 = .ok (.goto (-144), 3) := by decide +kernel
theorem dX7_cut_159 : decode cX7_cut 159 = .ok (.return_, 1) := by decide +kernel
theorem dX7_codeAt_0 : decode cX7_codeAt 0 = .ok (.iload_n 1, 1) := by decide +kernel
theorem dX7_codeAt_1 : decode cX7_codeAt 1 = .ok (.ifCond .lt 20, 3) := by decide +kernel
theorem dX7_codeAt_4 : decode cX7_codeAt 4 = .ok (.iload_n 1, 1) := by decide +kernel
theorem dX7_codeAt_5 : decode cX7_codeAt 5 = .ok (.aload_n 0, 1) := by decide +kernel
theorem dX7_codeAt_6 : decode cX7_codeAt 6 = .ok (.getfield 7, 3) := by decide +kernel
theorem dX7_codeAt_9 : decode cX7_codeAt 9 = .ok (.if_icmp .ge 12, 3) := by decide +kernel
theorem dX7_codeAt_12 : decode cX7_codeAt 12 = .ok (.aload_n 0, 1) := by decide +kernel
theorem dX7_codeAt_13 : decode cX7_codeAt 13 = .ok (.getfield 15, 3) := by decide +kernel
theorem dX7_codeAt_16 : decode cX7_codeAt 16 = .ok (.iload_n 1, 1) := by decide +kernel
theorem dX7_codeAt_17 : decode cX7_codeAt 17 = .ok (.iaload, 1) := by decide +kernel
theorem dX7_codeAt_18 : decode cX7_codeAt 18 = .ok (.goto 4, 3) := by decide +kernel
theorem dX7_codeAt_21 : decode cX7_codeAt 21 = .ok (.iconst 0, 1) := by decide +kernel
theorem dX7_codeAt_22 : decode cX7_codeAt 22 = .ok (.ireturn, 1) := by decide +kernel
theorem dX7_placeAt_0 : decode cX7_placeAt 0 = .ok (.iload_n 1, 1) := by decide +kernel
theorem dX7_placeAt_1 : decode cX7_placeAt 1 = .ok (.ifCond .lt 20, 3) := by decide +kernel
theorem dX7_placeAt_4 : decode cX7_placeAt 4 = .ok (.iload_n 1, 1) := by decide +kernel
theorem dX7_placeAt_5 : decode cX7_placeAt 5 = .ok (.aload_n 0, 1) := by decide +kernel
theorem dX7_placeAt_6 : decode cX7_placeAt 6 = .ok (.getfield 7, 3) := by decide +kernel
theorem dX7_placeAt_9 : decode cX7_placeAt 9 = .ok (.if_icmp .ge 12, 3) := by decide +kernel
theorem dX7_placeAt_12 : decode cX7_placeAt 12 = .ok (.aload_n 0, 1) := by decide +kernel
theorem dX7_placeAt_13 : decode cX7_placeAt 13 = .ok (.getfield 19, 3) := by decide +kernel
theorem dX7_placeAt_16 : decode cX7_placeAt 16 = .ok (.iload_n 1, 1) := by decide +kernel
theorem dX7_placeAt_17 : decode cX7_placeAt 17 = .ok (.iaload, 1) := by decide +kernel
theorem dX7_placeAt_18 : decode cX7_placeAt 18 = .ok (.goto 7, 3) := by decide +kernel
theorem dX7_placeAt_21 : decode cX7_placeAt 21 = .ok (.aload_n 0, 1) := by decide +kernel
theorem dX7_placeAt_22 : decode cX7_placeAt 22 = .ok (.getfield 25, 3) := by decide +kernel
theorem dX7_placeAt_25 : decode cX7_placeAt 25 = .ok (.ireturn, 1) := by decide +kernel
theorem dX7_valueAt_0 : decode cX7_valueAt 0 = .ok (.iload_n 1, 1) := by decide +kernel
theorem dX7_valueAt_1 : decode cX7_valueAt 1 = .ok (.ifCond .lt 20, 3) := by decide +kernel
theorem dX7_valueAt_4 : decode cX7_valueAt 4 = .ok (.iload_n 1, 1) := by decide +kernel
theorem dX7_valueAt_5 : decode cX7_valueAt 5 = .ok (.aload_n 0, 1) := by decide +kernel
theorem dX7_valueAt_6 : decode cX7_valueAt 6 = .ok (.getfield 7, 3) := by decide +kernel
theorem dX7_valueAt_9 : decode cX7_valueAt 9 = .ok (.if_icmp .ge 12, 3) := by decide +kernel
theorem dX7_valueAt_12 : decode cX7_valueAt 12 = .ok (.aload_n 0, 1) := by decide +kernel
theorem dX7_valueAt_13 : decode cX7_valueAt 13 = .ok (.getfield 22, 3) := by decide +kernel
theorem dX7_valueAt_16 : decode cX7_valueAt 16 = .ok (.iload_n 1, 1) := by decide +kernel
theorem dX7_valueAt_17 : decode cX7_valueAt 17 = .ok (.iaload, 1) := by decide +kernel
theorem dX7_valueAt_18 : decode cX7_valueAt 18 = .ok (.goto 4, 3) := by decide +kernel
theorem dX7_valueAt_21 : decode cX7_valueAt 21 = .ok (.iconst 0, 1) := by decide +kernel
theorem dX7_valueAt_22 : decode cX7_valueAt 22 = .ok (.ireturn, 1) := by decide +kernel
theorem dX7_keep_0 : decode cX7_keep 0 = .ok (.aload_n 0, 1) := by decide +kernel
theorem dX7_keep_1 : decode cX7_keep 1 = .ok (.getfield 7, 3) := by decide +kernel
theorem dX7_keep_4 : decode cX7_keep 4 = .ok (.sipush 500, 3) := by decide +kernel
theorem dX7_keep_7 : decode cX7_keep 7 = .ok (.if_icmp .lt 4, 3) := by decide +kernel
theorem dX7_keep_10 : decode cX7_keep 10 = .ok (.return_, 1) := by decide +kernel
theorem dX7_keep_11 : decode cX7_keep 11 = .ok (.aload_n 0, 1) := by decide +kernel
theorem dX7_keep_12 : decode cX7_keep 12 = .ok (.getfield 15, 3) := by decide +kernel
theorem dX7_keep_15 : decode cX7_keep 15 = .ok (.aload_n 0, 1) := by decide +kernel
theorem dX7_keep_16 : decode cX7_keep 16 = .ok (.getfield 7, 3) := by decide +kernel
theorem dX7_keep_19 : decode cX7_keep 19 = .ok (.iload_n 1, 1) := by decide +kernel
theorem dX7_keep_20 : decode cX7_keep 20 = .ok (.iastore, 1) := by decide +kernel
theorem dX7_keep_21 : decode cX7_keep 21 = .ok (.aload_n 0, 1) := by decide +kernel
theorem dX7_keep_22 : decode cX7_keep 22 = .ok (.getfield 19, 3) := by decide +kernel
theorem dX7_keep_25 : decode cX7_keep 25 = .ok (.aload_n 0, 1) := by decide +kernel
theorem dX7_keep_26 : decode cX7_keep 26 = .ok (.getfield 7, 3) := by decide +kernel
theorem dX7_keep_29 : decode cX7_keep 29 = .ok (.iload_n 2, 1) := by decide +kernel
theorem dX7_keep_30 : decode cX7_keep 30 = .ok (.iastore, 1) := by decide +kernel
theorem dX7_keep_31 : decode cX7_keep 31 = .ok (.aload_n 0, 1) := by decide +kernel
theorem dX7_keep_32 : decode cX7_keep 32 = .ok (.getfield 22, 3) := by decide +kernel
theorem dX7_keep_35 : decode cX7_keep 35 = .ok (.aload_n 0, 1) := by decide +kernel
theorem dX7_keep_36 : decode cX7_keep 36 = .ok (.getfield 7, 3) := by decide +kernel
theorem dX7_keep_39 : decode cX7_keep 39 = .ok (.iload_n 3, 1) := by decide +kernel
theorem dX7_keep_40 : decode cX7_keep 40 = .ok (.iastore, 1) := by decide +kernel
theorem dX7_keep_41 : decode cX7_keep 41 = .ok (.aload_n 0, 1) := by decide +kernel
theorem dX7_keep_42 : decode cX7_keep 42 = .ok (.dup, 1) := by decide +kernel
theorem dX7_keep_43 : decode cX7_keep 43 = .ok (.getfield 7, 3) := by decide +kernel
theorem dX7_keep_46 : decode cX7_keep 46 = .ok (.iconst 1, 1) := by decide +kernel
theorem dX7_keep_47 : decode cX7_keep 47 = .ok (.iadd, 1) := by decide +kernel
theorem dX7_keep_48 : decode cX7_keep 48 = .ok (.putfield 7, 3) := by decide +kernel
theorem dX7_keep_51 : decode cX7_keep 51 = .ok (.return_, 1) := by decide +kernel
theorem dX7_keepNumber_0 : decode cX7_keepNumber 0 = .ok (.iload_n 2, 1) := by decide +kernel
theorem dX7_keepNumber_1 : decode cX7_keepNumber 1 = .ok (.iload_n 1, 1) := by decide +kernel
theorem dX7_keepNumber_2 : decode cX7_keepNumber 2 = .ok (.isub, 1) := by decide +kernel
theorem dX7_keepNumber_3 : decode cX7_keepNumber 3 = .ok (.iconst 4, 1) := by decide +kernel
theorem dX7_keepNumber_4 : decode cX7_keepNumber 4 = .ok (.if_icmp .le 12, 3) := by decide +kernel
theorem dX7_keepNumber_7 : decode cX7_keepNumber 7 = .ok (.aload_n 0, 1) := by decide +kernel
theorem dX7_keepNumber_8 : decode cX7_keepNumber 8 = .ok (.bipush 16, 2) := by decide +kernel
theorem dX7_keepNumber_10 : decode cX7_keepNumber 10 = .ok (.iload_n 1, 1) := by decide +kernel
theorem dX7_keepNumber_11 : decode cX7_keepNumber 11 = .ok (.iconst 0, 1) := by decide +kernel
theorem dX7_keepNumber_12 : decode cX7_keepNumber 12 = .ok (.invokevirtual 44, 3) := by decide +kernel
theorem dX7_keepNumber_15 : decode cX7_keepNumber 15 = .ok (.return_, 1) := by decide +kernel
theorem dX7_keepNumber_16 : decode cX7_keepNumber 16 = .ok (.iconst 0, 1) := by decide +kernel
theorem dX7_keepNumber_17 : decode cX7_keepNumber 17 = .ok (.istore_n 3, 1) := by decide +kernel
theorem dX7_keepNumber_18 : decode cX7_keepNumber 18 = .ok (.iload_n 1, 1) := by decide +kernel
theorem dX7_keepNumber_19 : decode cX7_keepNumber 19 = .ok (.istore 4, 2) := by decide +kernel
theorem dX7_keepNumber_21 : decode cX7_keepNumber 21 = .ok (.iload 4, 2) := by decide +kernel
theorem dX7_keepNumber_23 : decode cX7_keepNumber 23 = .ok (.iload_n 2, 1) := by decide +kernel
theorem dX7_keepNumber_24 : decode cX7_keepNumber 24 = .ok (.if_icmp .ge 27, 3) := by decide +kernel
theorem dX7_keepNumber_27 : decode cX7_keepNumber 27 = .ok (.bipush 10, 2) := by decide +kernel
theorem dX7_keepNumber_29 : decode cX7_keepNumber 29 = .ok (.iload_n 3, 1) := by decide +kernel
theorem dX7_keepNumber_30 : decode cX7_keepNumber 30 = .ok (.imul, 1) := by decide +kernel
theorem dX7_keepNumber_31 : decode cX7_keepNumber 31 = .ok (.aload_n 0, 1) := by decide +kernel
theorem dX7_keepNumber_32 : decode cX7_keepNumber 32 = .ok (.getfield 28, 3) := by decide +kernel
theorem dX7_keepNumber_35 : decode cX7_keepNumber 35 = .ok (.iload 4, 2) := by decide +kernel
theorem dX7_keepNumber_37 : decode cX7_keepNumber 37 = .ok (.invokevirtual 32, 3) := by decide +kernel
theorem dX7_keepNumber_40 : decode cX7_keepNumber 40 = .ok (.iadd, 1) := by decide +kernel
theorem dX7_keepNumber_41 : decode cX7_keepNumber 41 = .ok (.bipush 48, 2) := by decide +kernel
theorem dX7_keepNumber_43 : decode cX7_keepNumber 43 = .ok (.isub, 1) := by decide +kernel
theorem dX7_keepNumber_44 : decode cX7_keepNumber 44 = .ok (.istore_n 3, 1) := by decide +kernel
theorem dX7_keepNumber_45 : decode cX7_keepNumber 45 = .ok (.iinc 4 1, 3) := by decide +kernel
theorem dX7_keepNumber_48 : decode cX7_keepNumber 48 = .ok (.goto (-27), 3) := by decide +kernel
theorem dX7_keepNumber_51 : decode cX7_keepNumber 51 = .ok (.aload_n 0, 1) := by decide +kernel
theorem dX7_keepNumber_52 : decode cX7_keepNumber 52 = .ok (.bipush 15, 2) := by decide +kernel
theorem dX7_keepNumber_54 : decode cX7_keepNumber 54 = .ok (.iload_n 1, 1) := by decide +kernel
theorem dX7_keepNumber_55 : decode cX7_keepNumber 55 = .ok (.iload_n 3, 1) := by decide +kernel
theorem dX7_keepNumber_56 : decode cX7_keepNumber 56 = .ok (.invokevirtual 44, 3) := by decide +kernel
theorem dX7_keepNumber_59 : decode cX7_keepNumber 59 = .ok (.return_, 1) := by decide +kernel
theorem dX7_wordCode_0 : decode cX7_wordCode 0 = .ok (.iconst 1, 1) := by decide +kernel
theorem dX7_wordCode_1 : decode cX7_wordCode 1 = .ok (.istore_n 3, 1) := by decide +kernel
theorem dX7_wordCode_2 : decode cX7_wordCode 2 = .ok (.iload_n 3, 1) := by decide +kernel
theorem dX7_wordCode_3 : decode cX7_wordCode 3 = .ok (.bipush 14, 2) := by decide +kernel
theorem dX7_wordCode_5 : decode cX7_wordCode 5 = .ok (.if_icmp .gt 24, 3) := by decide +kernel
theorem dX7_wordCode_8 : decode cX7_wordCode 8 = .ok (.aload_n 0, 1) := by decide +kernel
theorem dX7_wordCode_9 : decode cX7_wordCode 9 = .ok (.iload_n 3, 1) := by decide +kernel
theorem dX7_wordCode_10 : decode cX7_wordCode 10 = .ok (.invokestatic 61, 3) := by decide +kernel
theorem dX7_wordCode_13 : decode cX7_wordCode 13 = .ok (.iload_n 1, 1) := by decide +kernel
theorem dX7_wordCode_14 : decode cX7_wordCode 14 = .ok (.iload_n 2, 1) := by decide +kernel
theorem dX7_wordCode_15 : decode cX7_wordCode 15 = .ok (.invokevirtual 65, 3) := by decide +kernel
theorem dX7_wordCode_18 : decode cX7_wordCode 18 = .ok (.ifCond .eq 5, 3) := by decide +kernel
theorem dX7_wordCode_21 : decode cX7_wordCode 21 = .ok (.iload_n 3, 1) := by decide +kernel
theorem dX7_wordCode_22 : decode cX7_wordCode 22 = .ok (.ireturn, 1) := by decide +kernel
theorem dX7_wordCode_23 : decode cX7_wordCode 23 = .ok (.iinc 3 1, 3) := by decide +kernel
theorem dX7_wordCode_26 : decode cX7_wordCode 26 = .ok (.goto (-24), 3) := by decide +kernel
theorem dX7_wordCode_29 : decode cX7_wordCode 29 = .ok (.bipush 16, 2) := by decide +kernel
theorem dX7_wordCode_31 : decode cX7_wordCode 31 = .ok (.ireturn, 1) := by decide +kernel
theorem dX7_spells_0 : decode cX7_spells 0 = .ok (.iload_n 3, 1) := by decide +kernel
theorem dX7_spells_1 : decode cX7_spells 1 = .ok (.iload_n 2, 1) := by decide +kernel
theorem dX7_spells_2 : decode cX7_spells 2 = .ok (.isub, 1) := by decide +kernel
theorem dX7_spells_3 : decode cX7_spells 3 = .ok (.aload_n 1, 1) := by decide +kernel
theorem dX7_spells_4 : decode cX7_spells 4 = .ok (.invokevirtual 69, 3) := by decide +kernel
theorem dX7_spells_7 : decode cX7_spells 7 = .ok (.if_icmp .eq 5, 3) := by decide +kernel
theorem dX7_spells_10 : decode cX7_spells 10 = .ok (.iconst 0, 1) := by decide +kernel
theorem dX7_spells_11 : decode cX7_spells 11 = .ok (.ireturn, 1) := by decide +kernel
theorem dX7_spells_12 : decode cX7_spells 12 = .ok (.iconst 0, 1) := by decide +kernel
theorem dX7_spells_13 : decode cX7_spells 13 = .ok (.istore 4, 2) := by decide +kernel
theorem dX7_spells_15 : decode cX7_spells 15 = .ok (.iload 4, 2) := by decide +kernel
theorem dX7_spells_17 : decode cX7_spells 17 = .ok (.aload_n 1, 1) := by decide +kernel
theorem dX7_spells_18 : decode cX7_spells 18 = .ok (.invokevirtual 69, 3) := by decide +kernel
theorem dX7_spells_21 : decode cX7_spells 21 = .ok (.if_icmp .ge 31, 3) := by decide +kernel
theorem dX7_spells_24 : decode cX7_spells 24 = .ok (.aload_n 0, 1) := by decide +kernel
theorem dX7_spells_25 : decode cX7_spells 25 = .ok (.getfield 28, 3) := by decide +kernel
theorem dX7_spells_28 : decode cX7_spells 28 = .ok (.iload_n 2, 1) := by decide +kernel
theorem dX7_spells_29 : decode cX7_spells 29 = .ok (.iload 4, 2) := by decide +kernel
theorem dX7_spells_31 : decode cX7_spells 31 = .ok (.iadd, 1) := by decide +kernel
theorem dX7_spells_32 : decode cX7_spells 32 = .ok (.invokevirtual 32, 3) := by decide +kernel
theorem dX7_spells_35 : decode cX7_spells 35 = .ok (.aload_n 1, 1) := by decide +kernel
theorem dX7_spells_36 : decode cX7_spells 36 = .ok (.iload 4, 2) := by decide +kernel
theorem dX7_spells_38 : decode cX7_spells 38 = .ok (.invokevirtual 75, 3) := by decide +kernel
theorem dX7_spells_41 : decode cX7_spells 41 = .ok (.if_icmp .eq 5, 3) := by decide +kernel
theorem dX7_spells_44 : decode cX7_spells 44 = .ok (.iconst 0, 1) := by decide +kernel
theorem dX7_spells_45 : decode cX7_spells 45 = .ok (.ireturn, 1) := by decide +kernel
theorem dX7_spells_46 : decode cX7_spells 46 = .ok (.iinc 4 1, 3) := by decide +kernel
theorem dX7_spells_49 : decode cX7_spells 49 = .ok (.goto (-34), 3) := by decide +kernel
theorem dX7_spells_52 : decode cX7_spells 52 = .ok (.iconst 1, 1) := by decide +kernel
theorem dX7_spells_53 : decode cX7_spells 53 = .ok (.ireturn, 1) := by decide +kernel
theorem dX7_wordOf_0 : decode cX7_wordOf 0 = .ok (.iload_n 0, 1) := by decide +kernel
theorem dX7_wordOf_1 : decode cX7_wordOf 1 = .ok (.tableswitch 113 1 14 #[71, 74, 77, 80, 83, 86, 89, 92, 95, 98, 101, 104, 107, 110], 71) := by decide +kernel
theorem dX7_wordOf_72 : decode cX7_wordOf 72 = .ok (.ldc 79, 2) := by decide +kernel
theorem dX7_wordOf_74 : decode cX7_wordOf 74 = .ok (.areturn, 1) := by decide +kernel
theorem dX7_wordOf_75 : decode cX7_wordOf 75 = .ok (.ldc 81, 2) := by decide +kernel
theorem dX7_wordOf_77 : decode cX7_wordOf 77 = .ok (.areturn, 1) := by decide +kernel
theorem dX7_wordOf_78 : decode cX7_wordOf 78 = .ok (.ldc 83, 2) := by decide +kernel
theorem dX7_wordOf_80 : decode cX7_wordOf 80 = .ok (.areturn, 1) := by decide +kernel
theorem dX7_wordOf_81 : decode cX7_wordOf 81 = .ok (.ldc 85, 2) := by decide +kernel
theorem dX7_wordOf_83 : decode cX7_wordOf 83 = .ok (.areturn, 1) := by decide +kernel
theorem dX7_wordOf_84 : decode cX7_wordOf 84 = .ok (.ldc 87, 2) := by decide +kernel
theorem dX7_wordOf_86 : decode cX7_wordOf 86 = .ok (.areturn, 1) := by decide +kernel
theorem dX7_wordOf_87 : decode cX7_wordOf 87 = .ok (.ldc 89, 2) := by decide +kernel
theorem dX7_wordOf_89 : decode cX7_wordOf 89 = .ok (.areturn, 1) := by decide +kernel
theorem dX7_wordOf_90 : decode cX7_wordOf 90 = .ok (.ldc 91, 2) := by decide +kernel
theorem dX7_wordOf_92 : decode cX7_wordOf 92 = .ok (.areturn, 1) := by decide +kernel
theorem dX7_wordOf_93 : decode cX7_wordOf 93 = .ok (.ldc 93, 2) := by decide +kernel
theorem dX7_wordOf_95 : decode cX7_wordOf 95 = .ok (.areturn, 1) := by decide +kernel
theorem dX7_wordOf_96 : decode cX7_wordOf 96 = .ok (.ldc 95, 2) := by decide +kernel
theorem dX7_wordOf_98 : decode cX7_wordOf 98 = .ok (.areturn, 1) := by decide +kernel
theorem dX7_wordOf_99 : decode cX7_wordOf 99 = .ok (.ldc 97, 2) := by decide +kernel
theorem dX7_wordOf_101 : decode cX7_wordOf 101 = .ok (.areturn, 1) := by decide +kernel
theorem dX7_wordOf_102 : decode cX7_wordOf 102 = .ok (.ldc 99, 2) := by decide +kernel
theorem dX7_wordOf_104 : decode cX7_wordOf 104 = .ok (.areturn, 1) := by decide +kernel
theorem dX7_wordOf_105 : decode cX7_wordOf 105 = .ok (.ldc 100, 2) := by decide +kernel
theorem dX7_wordOf_107 : decode cX7_wordOf 107 = .ok (.areturn, 1) := by decide +kernel
theorem dX7_wordOf_108 : decode cX7_wordOf 108 = .ok (.ldc 102, 2) := by decide +kernel
theorem dX7_wordOf_110 : decode cX7_wordOf 110 = .ok (.areturn, 1) := by decide +kernel
theorem dX7_wordOf_111 : decode cX7_wordOf 111 = .ok (.ldc 104, 2) := by decide +kernel
theorem dX7_wordOf_113 : decode cX7_wordOf 113 = .ok (.areturn, 1) := by decide +kernel
theorem dX7_wordOf_114 : decode cX7_wordOf 114 = .ok (.ldc 106, 2) := by decide +kernel
theorem dX7_wordOf_116 : decode cX7_wordOf 116 = .ok (.areturn, 1) := by decide +kernel
theorem dX7_signCode_0 : decode cX7_signCode 0 = .ok (.iload_n 0, 1) := by decide +kernel
theorem dX7_signCode_1 : decode cX7_signCode 1 = .ok (.bipush 59, 2) := by decide +kernel
theorem dX7_signCode_3 : decode cX7_signCode 3 = .ok (.if_icmp .eq 21, 3) := by decide +kernel
theorem dX7_signCode_6 : decode cX7_signCode 6 = .ok (.iload_n 0, 1) := by decide +kernel
theorem dX7_signCode_7 : decode cX7_signCode 7 = .ok (.bipush 60, 2) := by decide +kernel
theorem dX7_signCode_9 : decode cX7_signCode 9 = .ok (.if_icmp .eq 15, 3) := by decide +kernel
theorem dX7_signCode_12 : decode cX7_signCode 12 = .ok (.iload_n 0, 1) := by decide +kernel
theorem dX7_signCode_13 : decode cX7_signCode 13 = .ok (.bipush 61, 2) := by decide +kernel
theorem dX7_signCode_15 : decode cX7_signCode 15 = .ok (.if_icmp .eq 9, 3) := by decide +kernel
theorem dX7_signCode_18 : decode cX7_signCode 18 = .ok (.iload_n 0, 1) := by decide +kernel
theorem dX7_signCode_19 : decode cX7_signCode 19 = .ok (.bipush 62, 2) := by decide +kernel
theorem dX7_signCode_21 : decode cX7_signCode 21 = .ok (.if_icmp .ne 7, 3) := by decide +kernel
theorem dX7_signCode_24 : decode cX7_signCode 24 = .ok (.iload_n 0, 1) := by decide +kernel
theorem dX7_signCode_25 : decode cX7_signCode 25 = .ok (.goto 5, 3) := by decide +kernel
theorem dX7_signCode_28 : decode cX7_signCode 28 = .ok (.bipush 16, 2) := by decide +kernel
theorem dX7_signCode_30 : decode cX7_signCode 30 = .ok (.ireturn, 1) := by decide +kernel
theorem dX7_isLetter_0 : decode cX7_isLetter 0 = .ok (.iload_n 0, 1) := by decide +kernel
theorem dX7_isLetter_1 : decode cX7_isLetter 1 = .ok (.bipush 97, 2) := by decide +kernel
theorem dX7_isLetter_3 : decode cX7_isLetter 3 = .ok (.if_icmp .lt 13, 3) := by decide +kernel
theorem dX7_isLetter_6 : decode cX7_isLetter 6 = .ok (.iload_n 0, 1) := by decide +kernel
theorem dX7_isLetter_7 : decode cX7_isLetter 7 = .ok (.bipush 122, 2) := by decide +kernel
theorem dX7_isLetter_9 : decode cX7_isLetter 9 = .ok (.if_icmp .gt 7, 3) := by decide +kernel
theorem dX7_isLetter_12 : decode cX7_isLetter 12 = .ok (.iconst 1, 1) := by decide +kernel
theorem dX7_isLetter_13 : decode cX7_isLetter 13 = .ok (.goto 4, 3) := by decide +kernel
theorem dX7_isLetter_16 : decode cX7_isLetter 16 = .ok (.iconst 0, 1) := by decide +kernel
theorem dX7_isLetter_17 : decode cX7_isLetter 17 = .ok (.ireturn, 1) := by decide +kernel
theorem dX7_isDigit_0 : decode cX7_isDigit 0 = .ok (.iload_n 0, 1) := by decide +kernel
theorem dX7_isDigit_1 : decode cX7_isDigit 1 = .ok (.bipush 48, 2) := by decide +kernel
theorem dX7_isDigit_3 : decode cX7_isDigit 3 = .ok (.if_icmp .lt 13, 3) := by decide +kernel
theorem dX7_isDigit_6 : decode cX7_isDigit 6 = .ok (.iload_n 0, 1) := by decide +kernel
theorem dX7_isDigit_7 : decode cX7_isDigit 7 = .ok (.bipush 57, 2) := by decide +kernel
theorem dX7_isDigit_9 : decode cX7_isDigit 9 = .ok (.if_icmp .gt 7, 3) := by decide +kernel
theorem dX7_isDigit_12 : decode cX7_isDigit 12 = .ok (.iconst 1, 1) := by decide +kernel
theorem dX7_isDigit_13 : decode cX7_isDigit 13 = .ok (.goto 4, 3) := by decide +kernel
theorem dX7_isDigit_16 : decode cX7_isDigit 16 = .ok (.iconst 0, 1) := by decide +kernel
theorem dX7_isDigit_17 : decode cX7_isDigit 17 = .ok (.ireturn, 1) := by decide +kernel
theorem dX7_isBlank_0 : decode cX7_isBlank 0 = .ok (.iload_n 0, 1) := by decide +kernel
theorem dX7_isBlank_1 : decode cX7_isBlank 1 = .ok (.bipush 32, 2) := by decide +kernel
theorem dX7_isBlank_3 : decode cX7_isBlank 3 = .ok (.if_icmp .eq 9, 3) := by decide +kernel
theorem dX7_isBlank_6 : decode cX7_isBlank 6 = .ok (.iload_n 0, 1) := by decide +kernel
theorem dX7_isBlank_7 : decode cX7_isBlank 7 = .ok (.bipush 10, 2) := by decide +kernel
theorem dX7_isBlank_9 : decode cX7_isBlank 9 = .ok (.if_icmp .ne 7, 3) := by decide +kernel
theorem dX7_isBlank_12 : decode cX7_isBlank 12 = .ok (.iconst 1, 1) := by decide +kernel
theorem dX7_isBlank_13 : decode cX7_isBlank 13 = .ok (.goto 4, 3) := by decide +kernel
theorem dX7_isBlank_16 : decode cX7_isBlank 16 = .ok (.iconst 0, 1) := by decide +kernel
theorem dX7_isBlank_17 : decode cX7_isBlank 17 = .ok (.ireturn, 1) := by decide +kernel
theorem dX8_init_0 : decode cX8_init 0 = .ok (.aload_n 0, 1) := by decide +kernel
theorem dX8_init_1 : decode cX8_init 1 = .ok (.invokespecial 1, 3) := by decide +kernel
theorem dX8_init_4 : decode cX8_init 4 = .ok (.aload_n 0, 1) := by decide +kernel
theorem dX8_init_5 : decode cX8_init 5 = .ok (.bipush 16, 2) := by decide +kernel
theorem dX8_init_7 : decode cX8_init 7 = .ok (.anewarray 9, 3) := by decide +kernel
theorem dX8_init_10 : decode cX8_init 10 = .ok (.putfield 11, 3) := by decide +kernel
theorem dX8_init_13 : decode cX8_init 13 = .ok (.aload_n 0, 1) := by decide +kernel
theorem dX8_init_14 : decode cX8_init 14 = .ok (.bipush 10, 2) := by decide +kernel
theorem dX8_init_16 : decode cX8_init 16 = .ok (.anewarray 15, 3) := by decide +kernel
theorem dX8_init_19 : decode cX8_init 19 = .ok (.putfield 17, 3) := by decide +kernel
theorem dX8_init_22 : decode cX8_init 22 = .ok (.aload_n 0, 1) := by decide +kernel
theorem dX8_init_23 : decode cX8_init 23 = .ok (.bipush 8, 2) := by decide +kernel
theorem dX8_init_25 : decode cX8_init 25 = .ok (.anewarray 21, 3) := by decide +kernel
theorem dX8_init_28 : decode cX8_init 28 = .ok (.putfield 23, 3) := by decide +kernel
theorem dX8_init_31 : decode cX8_init 31 = .ok (.aload_n 0, 1) := by decide +kernel
theorem dX8_init_32 : decode cX8_init 32 = .ok (.new 21, 3) := by decide +kernel
theorem dX8_init_35 : decode cX8_init 35 = .ok (.dup, 1) := by decide +kernel
theorem dX8_init_36 : decode cX8_init 36 = .ok (.invokespecial 27, 3) := by decide +kernel
theorem dX8_init_39 : decode cX8_init 39 = .ok (.putfield 28, 3) := by decide +kernel
theorem dX8_init_42 : decode cX8_init 42 = .ok (.aload_n 0, 1) := by decide +kernel
theorem dX8_init_43 : decode cX8_init 43 = .ok (.new 32, 3) := by decide +kernel
theorem dX8_init_46 : decode cX8_init 46 = .ok (.dup, 1) := by decide +kernel
theorem dX8_init_47 : decode cX8_init 47 = .ok (.invokespecial 34, 3) := by decide +kernel
theorem dX8_init_50 : decode cX8_init 50 = .ok (.putfield 35, 3) := by decide +kernel
theorem dX8_init_53 : decode cX8_init 53 = .ok (.aload_n 0, 1) := by decide +kernel
theorem dX8_init_54 : decode cX8_init 54 = .ok (.new 39, 3) := by decide +kernel
theorem dX8_init_57 : decode cX8_init 57 = .ok (.dup, 1) := by decide +kernel
theorem dX8_init_58 : decode cX8_init 58 = .ok (.invokespecial 41, 3) := by decide +kernel
theorem dX8_init_61 : decode cX8_init 61 = .ok (.putfield 42, 3) := by decide +kernel
theorem dX8_init_64 : decode cX8_init 64 = .ok (.aload_n 0, 1) := by decide +kernel
theorem dX8_init_65 : decode cX8_init 65 = .ok (.new 46, 3) := by decide +kernel
theorem dX8_init_68 : decode cX8_init 68 = .ok (.dup, 1) := by decide +kernel
theorem dX8_init_69 : decode cX8_init 69 = .ok (.aload_n 0, 1) := by decide +kernel
theorem dX8_init_70 : decode cX8_init 70 = .ok (.getfield 42, 3) := by decide +kernel
theorem dX8_init_73 : decode cX8_init 73 = .ok (.invokespecial 48, 3) := by decide +kernel
theorem dX8_init_76 : decode cX8_init 76 = .ok (.putfield 51, 3) := by decide +kernel
theorem dX8_init_79 : decode cX8_init 79 = .ok (.aload_n 0, 1) := by decide +kernel
theorem dX8_init_80 : decode cX8_init 80 = .ok (.new 55, 3) := by decide +kernel
theorem dX8_init_83 : decode cX8_init 83 = .ok (.dup, 1) := by decide +kernel
theorem dX8_init_84 : decode cX8_init 84 = .ok (.invokespecial 57, 3) := by decide +kernel
theorem dX8_init_87 : decode cX8_init 87 = .ok (.putfield 58, 3) := by decide +kernel
theorem dX8_init_90 : decode cX8_init 90 = .ok (.aload_n 0, 1) := by decide +kernel
theorem dX8_init_91 : decode cX8_init 91 = .ok (.iconst 0, 1) := by decide +kernel
theorem dX8_init_92 : decode cX8_init 92 = .ok (.putfield 62, 3) := by decide +kernel
theorem dX8_init_95 : decode cX8_init 95 = .ok (.aload_n 0, 1) := by decide +kernel
theorem dX8_init_96 : decode cX8_init 96 = .ok (.iconst 0, 1) := by decide +kernel
theorem dX8_init_97 : decode cX8_init 97 = .ok (.putfield 66, 3) := by decide +kernel
theorem dX8_init_100 : decode cX8_init 100 = .ok (.aload_n 0, 1) := by decide +kernel
theorem dX8_init_101 : decode cX8_init 101 = .ok (.iconst 0, 1) := by decide +kernel
theorem dX8_init_102 : decode cX8_init 102 = .ok (.putfield 69, 3) := by decide +kernel
theorem dX8_init_105 : decode cX8_init 105 = .ok (.aload_n 0, 1) := by decide +kernel
theorem dX8_init_106 : decode cX8_init 106 = .ok (.iconst 0, 1) := by decide +kernel
theorem dX8_init_107 : decode cX8_init 107 = .ok (.putfield 72, 3) := by decide +kernel
theorem dX8_init_110 : decode cX8_init 110 = .ok (.aload_n 0, 1) := by decide +kernel
theorem dX8_init_111 : decode cX8_init 111 = .ok (.iconst 0, 1) := by decide +kernel
theorem dX8_init_112 : decode cX8_init 112 = .ok (.putfield 75, 3) := by decide +kernel
theorem dX8_init_115 : decode cX8_init 115 = .ok (.aload_n 0, 1) := by decide +kernel
theorem dX8_init_116 : decode cX8_init 116 = .ok (.iconst 0, 1) := by decide +kernel
theorem dX8_init_117 : decode cX8_init 117 = .ok (.putfield 78, 3) := by decide +kernel
theorem dX8_init_120 : decode cX8_init 120 = .ok (.aload_n 0, 1) := by decide +kernel
theorem dX8_init_121 : decode cX8_init 121 = .ok (.iconst (-1), 1) := by decide +kernel
theorem dX8_init_122 : decode cX8_init 122 = .ok (.putfield 81, 3) := by decide +kernel
theorem dX8_init_125 : decode cX8_init 125 = .ok (.iconst 0, 1) := by decide +kernel
theorem dX8_init_126 : decode cX8_init 126 = .ok (.istore_n 1, 1) := by decide +kernel
theorem dX8_init_127 : decode cX8_init 127 = .ok (.iload_n 1, 1) := by decide +kernel
theorem dX8_init_128 : decode cX8_init 128 = .ok (.bipush 16, 2) := by decide +kernel
theorem dX8_init_130 : decode cX8_init 130 = .ok (.if_icmp .ge 22, 3) := by decide +kernel
theorem dX8_init_133 : decode cX8_init 133 = .ok (.aload_n 0, 1) := by decide +kernel
theorem dX8_init_134 : decode cX8_init 134 = .ok (.getfield 11, 3) := by decide +kernel
theorem dX8_init_137 : decode cX8_init 137 = .ok (.iload_n 1, 1) := by decide +kernel
theorem dX8_init_138 : decode cX8_init 138 = .ok (.new 9, 3) := by decide +kernel
theorem dX8_init_141 : decode cX8_init 141 = .ok (.dup, 1) := by decide +kernel
theorem dX8_init_142 : decode cX8_init 142 = .ok (.invokespecial 84, 3) := by decide +kernel
theorem dX8_init_145 : decode cX8_init 145 = .ok (.aastore, 1) := by decide +kernel
theorem dX8_init_146 : decode cX8_init 146 = .ok (.iinc 1 1, 3) := by decide +kernel
theorem dX8_init_149 : decode cX8_init 149 = .ok (.goto (-22), 3) := by decide +kernel
theorem dX8_init_152 : decode cX8_init 152 = .ok (.iconst 0, 1) := by decide +kernel
theorem dX8_init_153 : decode cX8_init 153 = .ok (.istore_n 1, 1) := by decide +kernel
theorem dX8_init_154 : decode cX8_init 154 = .ok (.iload_n 1, 1) := by decide +kernel
theorem dX8_init_155 : decode cX8_init 155 = .ok (.bipush 10, 2) := by decide +kernel
theorem dX8_init_157 : decode cX8_init 157 = .ok (.if_icmp .ge 22, 3) := by decide +kernel
theorem dX8_init_160 : decode cX8_init 160 = .ok (.aload_n 0, 1) := by decide +kernel
theorem dX8_init_161 : decode cX8_init 161 = .ok (.getfield 17, 3) := by decide +kernel
theorem dX8_init_164 : decode cX8_init 164 = .ok (.iload_n 1, 1) := by decide +kernel
theorem dX8_init_165 : decode cX8_init 165 = .ok (.new 15, 3) := by decide +kernel
theorem dX8_init_168 : decode cX8_init 168 = .ok (.dup, 1) := by decide +kernel
theorem dX8_init_169 : decode cX8_init 169 = .ok (.invokespecial 85, 3) := by decide +kernel
theorem dX8_init_172 : decode cX8_init 172 = .ok (.aastore, 1) := by decide +kernel
theorem dX8_init_173 : decode cX8_init 173 = .ok (.iinc 1 1, 3) := by decide +kernel
theorem dX8_init_176 : decode cX8_init 176 = .ok (.goto (-22), 3) := by decide +kernel
theorem dX8_init_179 : decode cX8_init 179 = .ok (.iconst 0, 1) := by decide +kernel
theorem dX8_init_180 : decode cX8_init 180 = .ok (.istore_n 1, 1) := by decide +kernel
theorem dX8_init_181 : decode cX8_init 181 = .ok (.iload_n 1, 1) := by decide +kernel
theorem dX8_init_182 : decode cX8_init 182 = .ok (.bipush 8, 2) := by decide +kernel
theorem dX8_init_184 : decode cX8_init 184 = .ok (.if_icmp .ge 22, 3) := by decide +kernel
theorem dX8_init_187 : decode cX8_init 187 = .ok (.aload_n 0, 1) := by decide +kernel
theorem dX8_init_188 : decode cX8_init 188 = .ok (.getfield 23, 3) := by decide +kernel
theorem dX8_init_191 : decode cX8_init 191 = .ok (.iload_n 1, 1) := by decide +kernel
theorem dX8_init_192 : decode cX8_init 192 = .ok (.new 21, 3) := by decide +kernel
theorem dX8_init_195 : decode cX8_init 195 = .ok (.dup, 1) := by decide +kernel
theorem dX8_init_196 : decode cX8_init 196 = .ok (.invokespecial 27, 3) := by decide +kernel
theorem dX8_init_199 : decode cX8_init 199 = .ok (.aastore, 1) := by decide +kernel
theorem dX8_init_200 : decode cX8_init 200 = .ok (.iinc 1 1, 3) := by decide +kernel
theorem dX8_init_203 : decode cX8_init 203 = .ok (.goto (-22), 3) := by decide +kernel
theorem dX8_init_206 : decode cX8_init 206 = .ok (.return_, 1) := by decide +kernel
theorem dX8_depth_0 : decode cX8_depth 0 = .ok (.iload_n 1, 1) := by decide +kernel
theorem dX8_depth_1 : decode cX8_depth 1 = .ok (.invokestatic 86, 3) := by decide +kernel
theorem dX8_depth_4 : decode cX8_depth 4 = .ok (.ifCond .eq 26, 3) := by decide +kernel
theorem dX8_depth_7 : decode cX8_depth 7 = .ok (.iload_n 2, 1) := by decide +kernel
theorem dX8_depth_8 : decode cX8_depth 8 = .ok (.iconst 0, 1) := by decide +kernel
theorem dX8_depth_9 : decode cX8_depth 9 = .ok (.sipush 3000, 3) := by decide +kernel
theorem dX8_depth_12 : decode cX8_depth 12 = .ok (.invokestatic 90, 3) := by decide +kernel
theorem dX8_depth_15 : decode cX8_depth 15 = .ok (.ifCond .eq 15, 3) := by decide +kernel
theorem dX8_depth_18 : decode cX8_depth 18 = .ok (.aload_n 0, 1) := by decide +kernel
theorem dX8_depth_19 : decode cX8_depth 19 = .ok (.getfield 11, 3) := by decide +kernel
theorem dX8_depth_22 : decode cX8_depth 22 = .ok (.iload_n 1, 1) := by decide +kernel
theorem dX8_depth_23 : decode cX8_depth 23 = .ok (.aaload, 1) := by decide +kernel
theorem dX8_depth_24 : decode cX8_depth 24 = .ok (.invokevirtual 94, 3) := by decide +kernel
theorem dX8_depth_27 : decode cX8_depth 27 = .ok (.ifCond .eq 5, 3) := by decide +kernel
theorem dX8_depth_30 : decode cX8_depth 30 = .ok (.iconst 0, 1) := by decide +kernel
theorem dX8_depth_31 : decode cX8_depth 31 = .ok (.ireturn, 1) := by decide +kernel
theorem dX8_depth_32 : decode cX8_depth 32 = .ok (.aload_n 0, 1) := by decide +kernel
theorem dX8_depth_33 : decode cX8_depth 33 = .ok (.getfield 11, 3) := by decide +kernel
theorem dX8_depth_36 : decode cX8_depth 36 = .ok (.iload_n 1, 1) := by decide +kernel
theorem dX8_depth_37 : decode cX8_depth 37 = .ok (.aaload, 1) := by decide +kernel
theorem dX8_depth_38 : decode cX8_depth 38 = .ok (.iload_n 2, 1) := by decide +kernel
theorem dX8_depth_39 : decode cX8_depth 39 = .ok (.putfield 98, 3) := by decide +kernel
theorem dX8_depth_42 : decode cX8_depth 42 = .ok (.iconst 1, 1) := by decide +kernel
theorem dX8_depth_43 : decode cX8_depth 43 = .ok (.ireturn, 1) := by decide +kernel
theorem dX8_mill_0 : decode cX8_mill 0 = .ok (.iload_n 1, 1) := by decide +kernel
theorem dX8_mill_1 : decode cX8_mill 1 = .ok (.invokestatic 86, 3) := by decide +kernel
theorem dX8_mill_4 : decode cX8_mill 4 = .ok (.ifCond .eq 13, 3) := by decide +kernel
theorem dX8_mill_7 : decode cX8_mill 7 = .ok (.iload_n 2, 1) := by decide +kernel
theorem dX8_mill_8 : decode cX8_mill 8 = .ok (.iconst 1, 1) := by decide +kernel
theorem dX8_mill_9 : decode cX8_mill 9 = .ok (.bipush 20, 2) := by decide +kernel
theorem dX8_mill_11 : decode cX8_mill 11 = .ok (.invokestatic 90, 3) := by decide +kernel
theorem dX8_mill_14 : decode cX8_mill 14 = .ok (.ifCond .ne 6, 3) := by decide +kernel
theorem dX8_mill_17 : decode cX8_mill 17 = .ok (.bipush (-2), 2) := by decide +kernel
theorem dX8_mill_19 : decode cX8_mill 19 = .ok (.ireturn, 1) := by decide +kernel
theorem dX8_mill_20 : decode cX8_mill 20 = .ok (.aload_n 0, 1) := by decide +kernel
theorem dX8_mill_21 : decode cX8_mill 21 = .ok (.getfield 11, 3) := by decide +kernel
theorem dX8_mill_24 : decode cX8_mill 24 = .ok (.iload_n 1, 1) := by decide +kernel
theorem dX8_mill_25 : decode cX8_mill 25 = .ok (.aaload, 1) := by decide +kernel
theorem dX8_mill_26 : decode cX8_mill 26 = .ok (.invokevirtual 94, 3) := by decide +kernel
theorem dX8_mill_29 : decode cX8_mill 29 = .ok (.ifCond .eq 6, 3) := by decide +kernel
theorem dX8_mill_32 : decode cX8_mill 32 = .ok (.bipush (-3), 2) := by decide +kernel
theorem dX8_mill_34 : decode cX8_mill 34 = .ok (.ireturn, 1) := by decide +kernel
theorem dX8_mill_35 : decode cX8_mill 35 = .ok (.aload_n 0, 1) := by decide +kernel
theorem dX8_mill_36 : decode cX8_mill 36 = .ok (.aload_n 0, 1) := by decide +kernel
theorem dX8_mill_37 : decode cX8_mill 37 = .ok (.getfield 69, 3) := by decide +kernel
theorem dX8_mill_40 : decode cX8_mill 40 = .ok (.invokevirtual 101, 3) := by decide +kernel
theorem dX8_mill_43 : decode cX8_mill 43 = .ok (.astore_n 3, 1) := by decide +kernel
theorem dX8_mill_44 : decode cX8_mill 44 = .ok (.aload_n 3, 1) := by decide +kernel
theorem dX8_mill_45 : decode cX8_mill 45 = .ok (.iload_n 1, 1) := by decide +kernel
theorem dX8_mill_46 : decode cX8_mill 46 = .ok (.aload_n 0, 1) := by decide +kernel
theorem dX8_mill_47 : decode cX8_mill 47 = .ok (.getfield 69, 3) := by decide +kernel
theorem dX8_mill_50 : decode cX8_mill 50 = .ok (.invokevirtual 105, 3) := by decide +kernel
theorem dX8_mill_53 : decode cX8_mill 53 = .ok (.ifCond .eq 6, 3) := by decide +kernel
theorem dX8_mill_56 : decode cX8_mill 56 = .ok (.bipush (-4), 2) := by decide +kernel
theorem dX8_mill_58 : decode cX8_mill 58 = .ok (.ireturn, 1) := by decide +kernel
theorem dX8_mill_59 : decode cX8_mill 59 = .ok (.aload_n 0, 1) := by decide +kernel
theorem dX8_mill_60 : decode cX8_mill 60 = .ok (.getfield 11, 3) := by decide +kernel
theorem dX8_mill_63 : decode cX8_mill 63 = .ok (.iload_n 1, 1) := by decide +kernel
theorem dX8_mill_64 : decode cX8_mill 64 = .ok (.aaload, 1) := by decide +kernel
theorem dX8_mill_65 : decode cX8_mill 65 = .ok (.getfield 98, 3) := by decide +kernel
theorem dX8_mill_68 : decode cX8_mill 68 = .ok (.iload_n 2, 1) := by decide +kernel
theorem dX8_mill_69 : decode cX8_mill 69 = .ok (.isub, 1) := by decide +kernel
theorem dX8_mill_70 : decode cX8_mill 70 = .ok (.aload_n 3, 1) := by decide +kernel
theorem dX8_mill_71 : decode cX8_mill 71 = .ok (.getfield 109, 3) := by decide +kernel
theorem dX8_mill_74 : decode cX8_mill 74 = .ok (.if_icmp .ge 6, 3) := by decide +kernel
theorem dX8_mill_77 : decode cX8_mill 77 = .ok (.bipush (-5), 2) := by decide +kernel
theorem dX8_mill_79 : decode cX8_mill 79 = .ok (.ireturn, 1) := by decide +kernel
theorem dX8_mill_80 : decode cX8_mill 80 = .ok (.aload_n 0, 1) := by decide +kernel
theorem dX8_mill_81 : decode cX8_mill 81 = .ok (.getfield 11, 3) := by decide +kernel
theorem dX8_mill_84 : decode cX8_mill 84 = .ok (.iload_n 1, 1) := by decide +kernel
theorem dX8_mill_85 : decode cX8_mill 85 = .ok (.aaload, 1) := by decide +kernel
theorem dX8_mill_86 : decode cX8_mill 86 = .ok (.iload_n 2, 1) := by decide +kernel
theorem dX8_mill_87 : decode cX8_mill 87 = .ok (.invokevirtual 112, 3) := by decide +kernel
theorem dX8_mill_90 : decode cX8_mill 90 = .ok (.iconst 0, 1) := by decide +kernel
theorem dX8_mill_91 : decode cX8_mill 91 = .ok (.ireturn, 1) := by decide +kernel
theorem dX8_ridge_0 : decode cX8_ridge 0 = .ok (.iload_n 1, 1) := by decide +kernel
theorem dX8_ridge_1 : decode cX8_ridge 1 = .ok (.invokestatic 86, 3) := by decide +kernel
theorem dX8_ridge_4 : decode cX8_ridge 4 = .ok (.ifCond .eq 16, 3) := by decide +kernel
theorem dX8_ridge_7 : decode cX8_ridge 7 = .ok (.aload_n 0, 1) := by decide +kernel
theorem dX8_ridge_8 : decode cX8_ridge 8 = .ok (.getfield 11, 3) := by decide +kernel
theorem dX8_ridge_11 : decode cX8_ridge 11 = .ok (.iload_n 1, 1) := by decide +kernel
theorem dX8_ridge_12 : decode cX8_ridge 12 = .ok (.aaload, 1) := by decide +kernel
theorem dX8_ridge_13 : decode cX8_ridge 13 = .ok (.getfield 116, 3) := by decide +kernel
theorem dX8_ridge_16 : decode cX8_ridge 16 = .ok (.iconst 1, 1) := by decide +kernel
theorem dX8_ridge_17 : decode cX8_ridge 17 = .ok (.if_icmp .eq 5, 3) := by decide +kernel
theorem dX8_ridge_20 : decode cX8_ridge 20 = .ok (.iconst 0, 1) := by decide +kernel
theorem dX8_ridge_21 : decode cX8_ridge 21 = .ok (.ireturn, 1) := by decide +kernel
theorem dX8_ridge_22 : decode cX8_ridge 22 = .ok (.aload_n 0, 1) := by decide +kernel
theorem dX8_ridge_23 : decode cX8_ridge 23 = .ok (.getfield 11, 3) := by decide +kernel
theorem dX8_ridge_26 : decode cX8_ridge 26 = .ok (.iload_n 1, 1) := by decide +kernel
theorem dX8_ridge_27 : decode cX8_ridge 27 = .ok (.aaload, 1) := by decide +kernel
theorem dX8_ridge_28 : decode cX8_ridge 28 = .ok (.iconst 2, 1) := by decide +kernel
theorem dX8_ridge_29 : decode cX8_ridge 29 = .ok (.putfield 116, 3) := by decide +kernel
theorem dX8_ridge_32 : decode cX8_ridge 32 = .ok (.iconst 1, 1) := by decide +kernel
theorem dX8_ridge_33 : decode cX8_ridge 33 = .ok (.ireturn, 1) := by decide +kernel
theorem dX8_probe_0 : decode cX8_probe 0 = .ok (.iload_n 1, 1) := by decide +kernel
theorem dX8_probe_1 : decode cX8_probe 1 = .ok (.invokestatic 86, 3) := by decide +kernel
theorem dX8_probe_4 : decode cX8_probe 4 = .ok (.ifCond .eq 26, 3) := by decide +kernel
theorem dX8_probe_7 : decode cX8_probe 7 = .ok (.iload_n 2, 1) := by decide +kernel
theorem dX8_probe_8 : decode cX8_probe 8 = .ok (.iconst 0, 1) := by decide +kernel
theorem dX8_probe_9 : decode cX8_probe 9 = .ok (.sipush 900, 3) := by decide +kernel
theorem dX8_probe_12 : decode cX8_probe 12 = .ok (.invokestatic 90, 3) := by decide +kernel
theorem dX8_probe_15 : decode cX8_probe 15 = .ok (.ifCond .eq 15, 3) := by decide +kernel
theorem dX8_probe_18 : decode cX8_probe 18 = .ok (.aload_n 0, 1) := by decide +kernel
theorem dX8_probe_19 : decode cX8_probe 19 = .ok (.getfield 11, 3) := by decide +kernel
theorem dX8_probe_22 : decode cX8_probe 22 = .ok (.iload_n 1, 1) := by decide +kernel
theorem dX8_probe_23 : decode cX8_probe 23 = .ok (.aaload, 1) := by decide +kernel
theorem dX8_probe_24 : decode cX8_probe 24 = .ok (.invokevirtual 119, 3) := by decide +kernel
theorem dX8_probe_27 : decode cX8_probe 27 = .ok (.ifCond .ne 5, 3) := by decide +kernel
theorem dX8_probe_30 : decode cX8_probe 30 = .ok (.iconst (-1), 1) := by decide +kernel
theorem dX8_probe_31 : decode cX8_probe 31 = .ok (.ireturn, 1) := by decide +kernel
theorem dX8_probe_32 : decode cX8_probe 32 = .ok (.aload_n 0, 1) := by decide +kernel
theorem dX8_probe_33 : decode cX8_probe 33 = .ok (.getfield 11, 3) := by decide +kernel
theorem dX8_probe_36 : decode cX8_probe 36 = .ok (.iload_n 1, 1) := by decide +kernel
theorem dX8_probe_37 : decode cX8_probe 37 = .ok (.aaload, 1) := by decide +kernel
theorem dX8_probe_38 : decode cX8_probe 38 = .ok (.iload_n 2, 1) := by decide +kernel
theorem dX8_probe_39 : decode cX8_probe 39 = .ok (.invokevirtual 122, 3) := by decide +kernel
theorem dX8_probe_42 : decode cX8_probe 42 = .ok (.ireturn, 1) := by decide +kernel
theorem dX8_stack_0 : decode cX8_stack 0 = .ok (.aload_n 0, 1) := by decide +kernel
theorem dX8_stack_1 : decode cX8_stack 1 = .ok (.getfield 62, 3) := by decide +kernel
theorem dX8_stack_4 : decode cX8_stack 4 = .ok (.bipush 10, 2) := by decide +kernel
theorem dX8_stack_6 : decode cX8_stack 6 = .ok (.if_icmp .lt 5, 3) := by decide +kernel
theorem dX8_stack_9 : decode cX8_stack 9 = .ok (.iconst (-1), 1) := by decide +kernel
theorem dX8_stack_10 : decode cX8_stack 10 = .ok (.ireturn, 1) := by decide +kernel
theorem dX8_stack_11 : decode cX8_stack 11 = .ok (.aload_n 0, 1) := by decide +kernel
theorem dX8_stack_12 : decode cX8_stack 12 = .ok (.getfield 17, 3) := by decide +kernel
theorem dX8_stack_15 : decode cX8_stack 15 = .ok (.aload_n 0, 1) := by decide +kernel
theorem dX8_stack_16 : decode cX8_stack 16 = .ok (.getfield 62, 3) := by decide +kernel
theorem dX8_stack_19 : decode cX8_stack 19 = .ok (.aaload, 1) := by decide +kernel
theorem dX8_stack_20 : decode cX8_stack 20 = .ok (.aload_n 0, 1) := by decide +kernel
theorem dX8_stack_21 : decode cX8_stack 21 = .ok (.getfield 69, 3) := by decide +kernel
theorem dX8_stack_24 : decode cX8_stack 24 = .ok (.putfield 126, 3) := by decide +kernel
theorem dX8_stack_27 : decode cX8_stack 27 = .ok (.aload_n 0, 1) := by decide +kernel
theorem dX8_stack_28 : decode cX8_stack 28 = .ok (.dup, 1) := by decide +kernel
theorem dX8_stack_29 : decode cX8_stack 29 = .ok (.getfield 62, 3) := by decide +kernel
theorem dX8_stack_32 : decode cX8_stack 32 = .ok (.iconst 1, 1) := by decide +kernel
theorem dX8_stack_33 : decode cX8_stack 33 = .ok (.iadd, 1) := by decide +kernel
theorem dX8_stack_34 : decode cX8_stack 34 = .ok (.putfield 62, 3) := by decide +kernel
theorem dX8_stack_37 : decode cX8_stack 37 = .ok (.aload_n 0, 1) := by decide +kernel
theorem dX8_stack_38 : decode cX8_stack 38 = .ok (.getfield 62, 3) := by decide +kernel
theorem dX8_stack_41 : decode cX8_stack 41 = .ok (.iconst 1, 1) := by decide +kernel
theorem dX8_stack_42 : decode cX8_stack 42 = .ok (.isub, 1) := by decide +kernel
theorem dX8_stack_43 : decode cX8_stack 43 = .ok (.ireturn, 1) := by decide +kernel
theorem dX8_bars_0 : decode cX8_bars 0 = .ok (.iload_n 1, 1) := by decide +kernel
theorem dX8_bars_1 : decode cX8_bars 1 = .ok (.invokestatic 86, 3) := by decide +kernel
theorem dX8_bars_4 : decode cX8_bars 4 = .ok (.ifCond .eq 15, 3) := by decide +kernel
theorem dX8_bars_7 : decode cX8_bars 7 = .ok (.aload_n 0, 1) := by decide +kernel
theorem dX8_bars_8 : decode cX8_bars 8 = .ok (.getfield 11, 3) := by decide +kernel
theorem dX8_bars_11 : decode cX8_bars 11 = .ok (.iload_n 1, 1) := by decide +kernel
theorem dX8_bars_12 : decode cX8_bars 12 = .ok (.aaload, 1) := by decide +kernel
theorem dX8_bars_13 : decode cX8_bars 13 = .ok (.invokevirtual 94, 3) := by decide +kernel
theorem dX8_bars_16 : decode cX8_bars 16 = .ok (.ifCond .ne 5, 3) := by decide +kernel
theorem dX8_bars_19 : decode cX8_bars 19 = .ok (.iconst 1, 1) := by decide +kernel
theorem dX8_bars_20 : decode cX8_bars 20 = .ok (.ireturn, 1) := by decide +kernel
theorem dX8_bars_21 : decode cX8_bars 21 = .ok (.aload_n 0, 1) := by decide +kernel
theorem dX8_bars_22 : decode cX8_bars 22 = .ok (.aload_n 0, 1) := by decide +kernel
theorem dX8_bars_23 : decode cX8_bars 23 = .ok (.getfield 69, 3) := by decide +kernel
theorem dX8_bars_26 : decode cX8_bars 26 = .ok (.invokevirtual 101, 3) := by decide +kernel
theorem dX8_bars_29 : decode cX8_bars 29 = .ok (.astore_n 2, 1) := by decide +kernel
theorem dX8_bars_30 : decode cX8_bars 30 = .ok (.aload_n 2, 1) := by decide +kernel
theorem dX8_bars_31 : decode cX8_bars 31 = .ok (.iload_n 1, 1) := by decide +kernel
theorem dX8_bars_32 : decode cX8_bars 32 = .ok (.aload_n 0, 1) := by decide +kernel
theorem dX8_bars_33 : decode cX8_bars 33 = .ok (.getfield 69, 3) := by decide +kernel
theorem dX8_bars_36 : decode cX8_bars 36 = .ok (.invokevirtual 105, 3) := by decide +kernel
theorem dX8_bars_39 : decode cX8_bars 39 = .ok (.ifCond .eq 5, 3) := by decide +kernel
theorem dX8_bars_42 : decode cX8_bars 42 = .ok (.iconst 2, 1) := by decide +kernel
theorem dX8_bars_43 : decode cX8_bars 43 = .ok (.ireturn, 1) := by decide +kernel
theorem dX8_bars_44 : decode cX8_bars 44 = .ok (.iload_n 1, 1) := by decide +kernel
theorem dX8_bars_45 : decode cX8_bars 45 = .ok (.aload_n 0, 1) := by decide +kernel
theorem dX8_bars_46 : decode cX8_bars 46 = .ok (.getfield 72, 3) := by decide +kernel
theorem dX8_bars_49 : decode cX8_bars 49 = .ok (.isub, 1) := by decide +kernel
theorem dX8_bars_50 : decode cX8_bars 50 = .ok (.invokestatic 129, 3) := by decide +kernel
theorem dX8_bars_53 : decode cX8_bars 53 = .ok (.iconst 1, 1) := by decide +kernel
theorem dX8_bars_54 : decode cX8_bars 54 = .ok (.if_icmp .le 5, 3) := by decide +kernel
theorem dX8_bars_57 : decode cX8_bars 57 = .ok (.iconst 3, 1) := by decide +kernel
theorem dX8_bars_58 : decode cX8_bars 58 = .ok (.ireturn, 1) := by decide +kernel
theorem dX8_bars_59 : decode cX8_bars 59 = .ok (.aload_n 0, 1) := by decide +kernel
theorem dX8_bars_60 : decode cX8_bars 60 = .ok (.getfield 11, 3) := by decide +kernel
theorem dX8_bars_63 : decode cX8_bars 63 = .ok (.iload_n 1, 1) := by decide +kernel
theorem dX8_bars_64 : decode cX8_bars 64 = .ok (.aaload, 1) := by decide +kernel
theorem dX8_bars_65 : decode cX8_bars 65 = .ok (.getfield 134, 3) := by decide +kernel
theorem dX8_bars_68 : decode cX8_bars 68 = .ok (.iconst 3, 1) := by decide +kernel
theorem dX8_bars_69 : decode cX8_bars 69 = .ok (.if_icmp .ge 5, 3) := by decide +kernel
theorem dX8_bars_72 : decode cX8_bars 72 = .ok (.iconst 4, 1) := by decide +kernel
theorem dX8_bars_73 : decode cX8_bars 73 = .ok (.ireturn, 1) := by decide +kernel
theorem dX8_bars_74 : decode cX8_bars 74 = .ok (.aload_n 0, 1) := by decide +kernel
theorem dX8_bars_75 : decode cX8_bars 75 = .ok (.getfield 11, 3) := by decide +kernel
theorem dX8_bars_78 : decode cX8_bars 78 = .ok (.iload_n 1, 1) := by decide +kernel
theorem dX8_bars_79 : decode cX8_bars 79 = .ok (.aaload, 1) := by decide +kernel
theorem dX8_bars_80 : decode cX8_bars 80 = .ok (.getfield 137, 3) := by decide +kernel
theorem dX8_bars_83 : decode cX8_bars 83 = .ok (.aload_n 2, 1) := by decide +kernel
theorem dX8_bars_84 : decode cX8_bars 84 = .ok (.getfield 140, 3) := by decide +kernel
theorem dX8_bars_87 : decode cX8_bars 87 = .ok (.if_icmp .le 7, 3) := by decide +kernel
theorem dX8_bars_90 : decode cX8_bars 90 = .ok (.iconst 5, 1) := by decide +kernel
theorem dX8_bars_91 : decode cX8_bars 91 = .ok (.goto 4, 3) := by decide +kernel
theorem dX8_bars_94 : decode cX8_bars 94 = .ok (.iconst 0, 1) := by decide +kernel
theorem dX8_bars_95 : decode cX8_bars 95 = .ok (.ireturn, 1) := by decide +kernel
theorem dX8_gather_0 : decode cX8_gather 0 = .ok (.iload_n 1, 1) := by decide +kernel
theorem dX8_gather_1 : decode cX8_gather 1 = .ok (.invokestatic 86, 3) := by decide +kernel
theorem dX8_gather_4 : decode cX8_gather 4 = .ok (.ifCond .eq 31, 3) := by decide +kernel
theorem dX8_gather_7 : decode cX8_gather 7 = .ok (.aload_n 0, 1) := by decide +kernel
theorem dX8_gather_8 : decode cX8_gather 8 = .ok (.iload_n 1, 1) := by decide +kernel
theorem dX8_gather_9 : decode cX8_gather 9 = .ok (.invokevirtual 143, 3) := by decide +kernel
theorem dX8_gather_12 : decode cX8_gather 12 = .ok (.ifCond .ne 23, 3) := by decide +kernel
theorem dX8_gather_15 : decode cX8_gather 15 = .ok (.aload_n 0, 1) := by decide +kernel
theorem dX8_gather_16 : decode cX8_gather 16 = .ok (.iload_n 2, 1) := by decide +kernel
theorem dX8_gather_17 : decode cX8_gather 17 = .ok (.invokevirtual 146, 3) := by decide +kernel
theorem dX8_gather_20 : decode cX8_gather 20 = .ok (.ifCond .eq 15, 3) := by decide +kernel
theorem dX8_gather_23 : decode cX8_gather 23 = .ok (.aload_n 0, 1) := by decide +kernel
theorem dX8_gather_24 : decode cX8_gather 24 = .ok (.getfield 17, 3) := by decide +kernel
theorem dX8_gather_27 : decode cX8_gather 27 = .ok (.iload_n 2, 1) := by decide +kernel
theorem dX8_gather_28 : decode cX8_gather 28 = .ok (.aaload, 1) := by decide +kernel
theorem dX8_gather_29 : decode cX8_gather 29 = .ok (.invokevirtual 149, 3) := by decide +kernel
theorem dX8_gather_32 : decode cX8_gather 32 = .ok (.ifCond .ne 5, 3) := by decide +kernel
theorem dX8_gather_35 : decode cX8_gather 35 = .ok (.iconst (-1), 1) := by decide +kernel
theorem dX8_gather_36 : decode cX8_gather 36 = .ok (.ireturn, 1) := by decide +kernel
theorem dX8_gather_37 : decode cX8_gather 37 = .ok (.aload_n 0, 1) := by decide +kernel
theorem dX8_gather_38 : decode cX8_gather 38 = .ok (.getfield 11, 3) := by decide +kernel
theorem dX8_gather_41 : decode cX8_gather 41 = .ok (.iload_n 1, 1) := by decide +kernel
theorem dX8_gather_42 : decode cX8_gather 42 = .ok (.aaload, 1) := by decide +kernel
theorem dX8_gather_43 : decode cX8_gather 43 = .ok (.getfield 152, 3) := by decide +kernel
theorem dX8_gather_46 : decode cX8_gather 46 = .ok (.istore_n 3, 1) := by decide +kernel
theorem dX8_gather_47 : decode cX8_gather 47 = .ok (.aload_n 0, 1) := by decide +kernel
theorem dX8_gather_48 : decode cX8_gather 48 = .ok (.getfield 17, 3) := by decide +kernel
theorem dX8_gather_51 : decode cX8_gather 51 = .ok (.iload_n 2, 1) := by decide +kernel
theorem dX8_gather_52 : decode cX8_gather 52 = .ok (.aaload, 1) := by decide +kernel
theorem dX8_gather_53 : decode cX8_gather 53 = .ok (.iload_n 3, 1) := by decide +kernel
theorem dX8_gather_54 : decode cX8_gather 54 = .ok (.aload_n 0, 1) := by decide +kernel
theorem dX8_gather_55 : decode cX8_gather 55 = .ok (.getfield 11, 3) := by decide +kernel
theorem dX8_gather_58 : decode cX8_gather 58 = .ok (.iload_n 1, 1) := by decide +kernel
theorem dX8_gather_59 : decode cX8_gather 59 = .ok (.aaload, 1) := by decide +kernel
theorem dX8_gather_60 : decode cX8_gather 60 = .ok (.getfield 155, 3) := by decide +kernel
theorem dX8_gather_63 : decode cX8_gather 63 = .ok (.invokevirtual 158, 3) := by decide +kernel
theorem dX8_gather_66 : decode cX8_gather 66 = .ok (.aload_n 0, 1) := by decide +kernel
theorem dX8_gather_67 : decode cX8_gather 67 = .ok (.getfield 11, 3) := by decide +kernel
theorem dX8_gather_70 : decode cX8_gather 70 = .ok (.iload_n 1, 1) := by decide +kernel
theorem dX8_gather_71 : decode cX8_gather 71 = .ok (.aaload, 1) := by decide +kernel
theorem dX8_gather_72 : decode cX8_gather 72 = .ok (.invokevirtual 162, 3) := by decide +kernel
theorem dX8_gather_75 : decode cX8_gather 75 = .ok (.iload_n 3, 1) := by decide +kernel
theorem dX8_gather_76 : decode cX8_gather 76 = .ok (.ireturn, 1) := by decide +kernel
theorem dX8_track_0 : decode cX8_track 0 = .ok (.iload_n 1, 1) := by decide +kernel
theorem dX8_track_1 : decode cX8_track 1 = .ok (.invokestatic 86, 3) := by decide +kernel
theorem dX8_track_4 : decode cX8_track 4 = .ok (.ifCond .ne 5, 3) := by decide +kernel
theorem dX8_track_7 : decode cX8_track 7 = .ok (.iconst (-1), 1) := by decide +kernel
theorem dX8_track_8 : decode cX8_track 8 = .ok (.ireturn, 1) := by decide +kernel
theorem dX8_track_9 : decode cX8_track 9 = .ok (.iload_n 1, 1) := by decide +kernel
theorem dX8_track_10 : decode cX8_track 10 = .ok (.aload_n 0, 1) := by decide +kernel
theorem dX8_track_11 : decode cX8_track 11 = .ok (.getfield 72, 3) := by decide +kernel
theorem dX8_track_14 : decode cX8_track 14 = .ok (.isub, 1) := by decide +kernel
theorem dX8_track_15 : decode cX8_track 15 = .ok (.invokestatic 129, 3) := by decide +kernel
theorem dX8_track_18 : decode cX8_track 18 = .ok (.istore_n 2, 1) := by decide +kernel
theorem dX8_track_19 : decode cX8_track 19 = .ok (.aload_n 0, 1) := by decide +kernel
theorem dX8_track_20 : decode cX8_track 20 = .ok (.iload_n 1, 1) := by decide +kernel
theorem dX8_track_21 : decode cX8_track 21 = .ok (.putfield 72, 3) := by decide +kernel
theorem dX8_track_24 : decode cX8_track 24 = .ok (.aload_n 0, 1) := by decide +kernel
theorem dX8_track_25 : decode cX8_track 25 = .ok (.dup, 1) := by decide +kernel
theorem dX8_track_26 : decode cX8_track 26 = .ok (.getfield 75, 3) := by decide +kernel
theorem dX8_track_29 : decode cX8_track 29 = .ok (.iload_n 2, 1) := by decide +kernel
theorem dX8_track_30 : decode cX8_track 30 = .ok (.iadd, 1) := by decide +kernel
theorem dX8_track_31 : decode cX8_track 31 = .ok (.putfield 75, 3) := by decide +kernel
theorem dX8_track_34 : decode cX8_track 34 = .ok (.iload_n 2, 1) := by decide +kernel
theorem dX8_track_35 : decode cX8_track 35 = .ok (.ireturn, 1) := by decide +kernel
theorem dX8_want_0 : decode cX8_want 0 = .ok (.iload_n 1, 1) := by decide +kernel
theorem dX8_want_1 : decode cX8_want 1 = .ok (.iconst 0, 1) := by decide +kernel
theorem dX8_want_2 : decode cX8_want 2 = .ok (.sipush 1000, 3) := by decide +kernel
theorem dX8_want_5 : decode cX8_want 5 = .ok (.invokestatic 90, 3) := by decide +kernel
theorem dX8_want_8 : decode cX8_want 8 = .ok (.ifCond .ne 5, 3) := by decide +kernel
theorem dX8_want_11 : decode cX8_want 11 = .ok (.iconst 0, 1) := by decide +kernel
theorem dX8_want_12 : decode cX8_want 12 = .ok (.ireturn, 1) := by decide +kernel
theorem dX8_want_13 : decode cX8_want 13 = .ok (.aload_n 0, 1) := by decide +kernel
theorem dX8_want_14 : decode cX8_want 14 = .ok (.getfield 35, 3) := by decide +kernel
theorem dX8_want_17 : decode cX8_want 17 = .ok (.iload_n 1, 1) := by decide +kernel
theorem dX8_want_18 : decode cX8_want 18 = .ok (.putfield 165, 3) := by decide +kernel
theorem dX8_want_21 : decode cX8_want 21 = .ok (.iconst 1, 1) := by decide +kernel
theorem dX8_want_22 : decode cX8_want 22 = .ok (.ireturn, 1) := by decide +kernel
theorem dX8_read_0 : decode cX8_read 0 = .ok (.aload_n 0, 1) := by decide +kernel
theorem dX8_read_1 : decode cX8_read 1 = .ok (.iload_n 1, 1) := by decide +kernel
theorem dX8_read_2 : decode cX8_read 2 = .ok (.invokevirtual 146, 3) := by decide +kernel
theorem dX8_read_5 : decode cX8_read 5 = .ok (.ifCond .eq 13, 3) := by decide +kernel
theorem dX8_read_8 : decode cX8_read 8 = .ok (.iload_n 2, 1) := by decide +kernel
theorem dX8_read_9 : decode cX8_read 9 = .ok (.iconst 0, 1) := by decide +kernel
theorem dX8_read_10 : decode cX8_read 10 = .ok (.bipush 100, 2) := by decide +kernel
theorem dX8_read_12 : decode cX8_read 12 = .ok (.invokestatic 90, 3) := by decide +kernel
theorem dX8_read_15 : decode cX8_read 15 = .ok (.ifCond .ne 5, 3) := by decide +kernel
theorem dX8_read_18 : decode cX8_read 18 = .ok (.iconst 0, 1) := by decide +kernel
theorem dX8_read_19 : decode cX8_read 19 = .ok (.ireturn, 1) := by decide +kernel
theorem dX8_read_20 : decode cX8_read 20 = .ok (.aload_n 0, 1) := by decide +kernel
theorem dX8_read_21 : decode cX8_read 21 = .ok (.getfield 17, 3) := by decide +kernel
theorem dX8_read_24 : decode cX8_read 24 = .ok (.iload_n 1, 1) := by decide +kernel
theorem dX8_read_25 : decode cX8_read 25 = .ok (.aaload, 1) := by decide +kernel
theorem dX8_read_26 : decode cX8_read 26 = .ok (.iload_n 2, 1) := by decide +kernel
theorem dX8_read_27 : decode cX8_read 27 = .ok (.putfield 168, 3) := by decide +kernel
theorem dX8_read_30 : decode cX8_read 30 = .ok (.iconst 1, 1) := by decide +kernel
theorem dX8_read_31 : decode cX8_read 31 = .ok (.ireturn, 1) := by decide +kernel
theorem dX8_day_0 : decode cX8_day 0 = .ok (.iload_n 1, 1) := by decide +kernel
theorem dX8_day_1 : decode cX8_day 1 = .ok (.iconst 0, 1) := by decide +kernel
theorem dX8_day_2 : decode cX8_day 2 = .ok (.bipush 10, 2) := by decide +kernel
theorem dX8_day_4 : decode cX8_day 4 = .ok (.invokestatic 90, 3) := by decide +kernel
theorem dX8_day_7 : decode cX8_day 7 = .ok (.ifCond .eq 33, 3) := by decide +kernel
theorem dX8_day_10 : decode cX8_day 10 = .ok (.iload_n 2, 1) := by decide +kernel
theorem dX8_day_11 : decode cX8_day 11 = .ok (.iconst 0, 1) := by decide +kernel
theorem dX8_day_12 : decode cX8_day 12 = .ok (.bipush 10, 2) := by decide +kernel
theorem dX8_day_14 : decode cX8_day 14 = .ok (.invokestatic 90, 3) := by decide +kernel
theorem dX8_day_17 : decode cX8_day 17 = .ok (.ifCond .eq 23, 3) := by decide +kernel
theorem dX8_day_20 : decode cX8_day 20 = .ok (.iload_n 3, 1) := by decide +kernel
theorem dX8_day_21 : decode cX8_day 21 = .ok (.iconst 0, 1) := by decide +kernel
theorem dX8_day_22 : decode cX8_day 22 = .ok (.bipush 50, 2) := by decide +kernel
theorem dX8_day_24 : decode cX8_day 24 = .ok (.invokestatic 90, 3) := by decide +kernel
theorem dX8_day_27 : decode cX8_day 27 = .ok (.ifCond .eq 13, 3) := by decide +kernel
theorem dX8_day_30 : decode cX8_day 30 = .ok (.aload_n 0, 1) := by decide +kernel
theorem dX8_day_31 : decode cX8_day 31 = .ok (.getfield 69, 3) := by decide +kernel
theorem dX8_day_34 : decode cX8_day 34 = .ok (.sipush 1000, 3) := by decide +kernel
theorem dX8_day_37 : decode cX8_day 37 = .ok (.if_icmp .lt 5, 3) := by decide +kernel
theorem dX8_day_40 : decode cX8_day 40 = .ok (.iconst (-1), 1) := by decide +kernel
theorem dX8_day_41 : decode cX8_day 41 = .ok (.ireturn, 1) := by decide +kernel
theorem dX8_day_42 : decode cX8_day 42 = .ok (.iconst 0, 1) := by decide +kernel
theorem dX8_day_43 : decode cX8_day 43 = .ok (.istore 4, 2) := by decide +kernel
theorem dX8_day_45 : decode cX8_day 45 = .ok (.iload 4, 2) := by decide +kernel
theorem dX8_day_47 : decode cX8_day 47 = .ok (.bipush 16, 2) := by decide +kernel
theorem dX8_day_49 : decode cX8_day 49 = .ok (.if_icmp .ge 22, 3) := by decide +kernel
theorem dX8_day_52 : decode cX8_day 52 = .ok (.aload_n 0, 1) := by decide +kernel
theorem dX8_day_53 : decode cX8_day 53 = .ok (.getfield 11, 3) := by decide +kernel
theorem dX8_day_56 : decode cX8_day 56 = .ok (.iload 4, 2) := by decide +kernel
theorem dX8_day_58 : decode cX8_day 58 = .ok (.aaload, 1) := by decide +kernel
theorem dX8_day_59 : decode cX8_day 59 = .ok (.iload_n 1, 1) := by decide +kernel
theorem dX8_day_60 : decode cX8_day 60 = .ok (.iload_n 2, 1) := by decide +kernel
theorem dX8_day_61 : decode cX8_day 61 = .ok (.iload_n 3, 1) := by decide +kernel
theorem dX8_day_62 : decode cX8_day 62 = .ok (.invokevirtual 171, 3) := by decide +kernel
theorem dX8_day_65 : decode cX8_day 65 = .ok (.iinc 4 1, 3) := by decide +kernel
theorem dX8_day_68 : decode cX8_day 68 = .ok (.goto (-23), 3) := by decide +kernel
theorem dX8_day_71 : decode cX8_day 71 = .ok (.iconst 0, 1) := by decide +kernel
theorem dX8_day_72 : decode cX8_day 72 = .ok (.istore 4, 2) := by decide +kernel
theorem dX8_day_74 : decode cX8_day 74 = .ok (.iload 4, 2) := by decide +kernel
theorem dX8_day_76 : decode cX8_day 76 = .ok (.aload_n 0, 1) := by decide +kernel
theorem dX8_day_77 : decode cX8_day 77 = .ok (.getfield 62, 3) := by decide +kernel
theorem dX8_day_80 : decode cX8_day 80 = .ok (.if_icmp .ge 33, 3) := by decide +kernel
theorem dX8_day_83 : decode cX8_day 83 = .ok (.aload_n 0, 1) := by decide +kernel
theorem dX8_day_84 : decode cX8_day 84 = .ok (.dup, 1) := by decide +kernel
theorem dX8_day_85 : decode cX8_day 85 = .ok (.getfield 78, 3) := by decide +kernel
theorem dX8_day_88 : decode cX8_day 88 = .ok (.aload_n 0, 1) := by decide +kernel
theorem dX8_day_89 : decode cX8_day 89 = .ok (.getfield 17, 3) := by decide +kernel
theorem dX8_day_92 : decode cX8_day 92 = .ok (.iload 4, 2) := by decide +kernel
theorem dX8_day_94 : decode cX8_day 94 = .ok (.aaload, 1) := by decide +kernel
theorem dX8_day_95 : decode cX8_day 95 = .ok (.iload_n 3, 1) := by decide +kernel
theorem dX8_day_96 : decode cX8_day 96 = .ok (.aload_n 0, 1) := by decide +kernel
theorem dX8_day_97 : decode cX8_day 97 = .ok (.getfield 69, 3) := by decide +kernel
theorem dX8_day_100 : decode cX8_day 100 = .ok (.invokevirtual 175, 3) := by decide +kernel
theorem dX8_day_103 : decode cX8_day 103 = .ok (.iadd, 1) := by decide +kernel
theorem dX8_day_104 : decode cX8_day 104 = .ok (.putfield 78, 3) := by decide +kernel
theorem dX8_day_107 : decode cX8_day 107 = .ok (.iinc 4 1, 3) := by decide +kernel
theorem dX8_day_110 : decode cX8_day 110 = .ok (.goto (-36), 3) := by decide +kernel
theorem dX8_day_113 : decode cX8_day 113 = .ok (.aload_n 0, 1) := by decide +kernel
theorem dX8_day_114 : decode cX8_day 114 = .ok (.getfield 35, 3) := by decide +kernel
theorem dX8_day_117 : decode cX8_day 117 = .ok (.aload_n 0, 1) := by decide +kernel
theorem dX8_day_118 : decode cX8_day 118 = .ok (.getfield 17, 3) := by decide +kernel
theorem dX8_day_121 : decode cX8_day 121 = .ok (.aload_n 0, 1) := by decide +kernel
theorem dX8_day_122 : decode cX8_day 122 = .ok (.getfield 62, 3) := by decide +kernel
theorem dX8_day_125 : decode cX8_day 125 = .ok (.invokevirtual 179, 3) := by decide +kernel
theorem dX8_day_128 : decode cX8_day 128 = .ok (.aload_n 0, 1) := by decide +kernel
theorem dX8_day_129 : decode cX8_day 129 = .ok (.dup, 1) := by decide +kernel
theorem dX8_day_130 : decode cX8_day 130 = .ok (.getfield 69, 3) := by decide +kernel
theorem dX8_day_133 : decode cX8_day 133 = .ok (.iconst 1, 1) := by decide +kernel
theorem dX8_day_134 : decode cX8_day 134 = .ok (.iadd, 1) := by decide +kernel
theorem dX8_day_135 : decode cX8_day 135 = .ok (.putfield 69, 3) := by decide +kernel
theorem dX8_day_138 : decode cX8_day 138 = .ok (.aload_n 0, 1) := by decide +kernel
theorem dX8_day_139 : decode cX8_day 139 = .ok (.getfield 69, 3) := by decide +kernel
theorem dX8_day_142 : decode cX8_day 142 = .ok (.bipush 7, 2) := by decide +kernel
theorem dX8_day_144 : decode cX8_day 144 = .ok (.irem, 1) := by decide +kernel
theorem dX8_day_145 : decode cX8_day 145 = .ok (.ifCond .ne 15, 3) := by decide +kernel
theorem dX8_day_148 : decode cX8_day 148 = .ok (.aload_n 0, 1) := by decide +kernel
theorem dX8_day_149 : decode cX8_day 149 = .ok (.aload_n 0, 1) := by decide +kernel
theorem dX8_day_150 : decode cX8_day 150 = .ok (.aload_n 0, 1) := by decide +kernel
theorem dX8_day_151 : decode cX8_day 151 = .ok (.getfield 69, 3) := by decide +kernel
theorem dX8_day_154 : decode cX8_day 154 = .ok (.invokevirtual 101, 3) := by decide +kernel
theorem dX8_day_157 : decode cX8_day 157 = .ok (.invokevirtual 183, 3) := by decide +kernel
theorem dX8_day_160 : decode cX8_day 160 = .ok (.aload_n 0, 1) := by decide +kernel
theorem dX8_day_161 : decode cX8_day 161 = .ok (.getfield 69, 3) := by decide +kernel
theorem dX8_day_164 : decode cX8_day 164 = .ok (.ireturn, 1) := by decide +kernel
theorem dX8_feed_0 : decode cX8_feed 0 = .ok (.aload_n 0, 1) := by decide +kernel
theorem dX8_feed_1 : decode cX8_feed 1 = .ok (.getfield 42, 3) := by decide +kernel
theorem dX8_feed_4 : decode cX8_feed 4 = .ok (.bipush 20, 2) := by decide +kernel
theorem dX8_feed_6 : decode cX8_feed 6 = .ok (.invokevirtual 187, 3) := by decide +kernel
theorem dX8_feed_9 : decode cX8_feed 9 = .ok (.ifCond .ne 5, 3) := by decide +kernel
theorem dX8_feed_12 : decode cX8_feed 12 = .ok (.iconst (-1), 1) := by decide +kernel
theorem dX8_feed_13 : decode cX8_feed 13 = .ok (.ireturn, 1) := by decide +kernel
theorem dX8_feed_14 : decode cX8_feed 14 = .ok (.aload_n 0, 1) := by decide +kernel
theorem dX8_feed_15 : decode cX8_feed 15 = .ok (.getfield 42, 3) := by decide +kernel
theorem dX8_feed_18 : decode cX8_feed 18 = .ok (.iload_n 1, 1) := by decide +kernel
theorem dX8_feed_19 : decode cX8_feed 19 = .ok (.invokevirtual 190, 3) := by decide +kernel
theorem dX8_feed_22 : decode cX8_feed 22 = .ok (.aload_n 0, 1) := by decide +kernel
theorem dX8_feed_23 : decode cX8_feed 23 = .ok (.getfield 42, 3) := by decide +kernel
theorem dX8_feed_26 : decode cX8_feed 26 = .ok (.iload_n 2, 1) := by decide +kernel
theorem dX8_feed_27 : decode cX8_feed 27 = .ok (.invokevirtual 190, 3) := by decide +kernel
theorem dX8_feed_30 : decode cX8_feed 30 = .ok (.aload_n 0, 1) := by decide +kernel
theorem dX8_feed_31 : decode cX8_feed 31 = .ok (.getfield 42, 3) := by decide +kernel
theorem dX8_feed_34 : decode cX8_feed 34 = .ok (.iload_n 3, 1) := by decide +kernel
theorem dX8_feed_35 : decode cX8_feed 35 = .ok (.invokevirtual 190, 3) := by decide +kernel
theorem dX8_feed_38 : decode cX8_feed 38 = .ok (.aload_n 0, 1) := by decide +kernel
theorem dX8_feed_39 : decode cX8_feed 39 = .ok (.getfield 42, 3) := by decide +kernel
theorem dX8_feed_42 : decode cX8_feed 42 = .ok (.iload 4, 2) := by decide +kernel
theorem dX8_feed_44 : decode cX8_feed 44 = .ok (.invokevirtual 190, 3) := by decide +kernel
theorem dX8_feed_47 : decode cX8_feed 47 = .ok (.aload_n 0, 1) := by decide +kernel
theorem dX8_feed_48 : decode cX8_feed 48 = .ok (.getfield 42, 3) := by decide +kernel
theorem dX8_feed_51 : decode cX8_feed 51 = .ok (.iload 5, 2) := by decide +kernel
theorem dX8_feed_53 : decode cX8_feed 53 = .ok (.invokevirtual 190, 3) := by decide +kernel
theorem dX8_feed_56 : decode cX8_feed 56 = .ok (.aload_n 0, 1) := by decide +kernel
theorem dX8_feed_57 : decode cX8_feed 57 = .ok (.getfield 42, 3) := by decide +kernel
theorem dX8_feed_60 : decode cX8_feed 60 = .ok (.getfield 192, 3) := by decide +kernel
theorem dX8_feed_63 : decode cX8_feed 63 = .ok (.ireturn, 1) := by decide +kernel
theorem dX8_law_0 : decode cX8_law 0 = .ok (.iload_n 1, 1) := by decide +kernel
theorem dX8_law_1 : decode cX8_law 1 = .ok (.iconst 0, 1) := by decide +kernel
theorem dX8_law_2 : decode cX8_law 2 = .ok (.aload_n 0, 1) := by decide +kernel
theorem dX8_law_3 : decode cX8_law 3 = .ok (.getfield 42, 3) := by decide +kernel
theorem dX8_law_6 : decode cX8_law 6 = .ok (.getfield 192, 3) := by decide +kernel
theorem dX8_law_9 : decode cX8_law 9 = .ok (.invokestatic 90, 3) := by decide +kernel
theorem dX8_law_12 : decode cX8_law 12 = .ok (.ifCond .ne 6, 3) := by decide +kernel
theorem dX8_law_15 : decode cX8_law 15 = .ok (.bipush (-2), 2) := by decide +kernel
theorem dX8_law_17 : decode cX8_law 17 = .ok (.ireturn, 1) := by decide +kernel
theorem dX8_law_18 : decode cX8_law 18 = .ok (.aload_n 0, 1) := by decide +kernel
theorem dX8_law_19 : decode cX8_law 19 = .ok (.getfield 66, 3) := by decide +kernel
theorem dX8_law_22 : decode cX8_law 22 = .ok (.bipush 8, 2) := by decide +kernel
theorem dX8_law_24 : decode cX8_law 24 = .ok (.if_icmp .lt 6, 3) := by decide +kernel
theorem dX8_law_27 : decode cX8_law 27 = .ok (.bipush (-3), 2) := by decide +kernel
theorem dX8_law_29 : decode cX8_law 29 = .ok (.ireturn, 1) := by decide +kernel
theorem dX8_law_30 : decode cX8_law 30 = .ok (.aload_n 0, 1) := by decide +kernel
theorem dX8_law_31 : decode cX8_law 31 = .ok (.getfield 23, 3) := by decide +kernel
theorem dX8_law_34 : decode cX8_law 34 = .ok (.aload_n 0, 1) := by decide +kernel
theorem dX8_law_35 : decode cX8_law 35 = .ok (.getfield 66, 3) := by decide +kernel
theorem dX8_law_38 : decode cX8_law 38 = .ok (.aaload, 1) := by decide +kernel
theorem dX8_law_39 : decode cX8_law 39 = .ok (.astore_n 2, 1) := by decide +kernel
theorem dX8_law_40 : decode cX8_law 40 = .ok (.aload_n 2, 1) := by decide +kernel
theorem dX8_law_41 : decode cX8_law 41 = .ok (.aload_n 0, 1) := by decide +kernel
theorem dX8_law_42 : decode cX8_law 42 = .ok (.getfield 66, 3) := by decide +kernel
theorem dX8_law_45 : decode cX8_law 45 = .ok (.aload_n 0, 1) := by decide +kernel
theorem dX8_law_46 : decode cX8_law 46 = .ok (.getfield 69, 3) := by decide +kernel
theorem dX8_law_49 : decode cX8_law 49 = .ok (.invokevirtual 195, 3) := by decide +kernel
theorem dX8_law_52 : decode cX8_law 52 = .ok (.aload_n 0, 1) := by decide +kernel
theorem dX8_law_53 : decode cX8_law 53 = .ok (.aload_n 0, 1) := by decide +kernel
theorem dX8_law_54 : decode cX8_law 54 = .ok (.getfield 51, 3) := by decide +kernel
theorem dX8_law_57 : decode cX8_law 57 = .ok (.iload_n 1, 1) := by decide +kernel
theorem dX8_law_58 : decode cX8_law 58 = .ok (.aload_n 2, 1) := by decide +kernel
theorem dX8_law_59 : decode cX8_law 59 = .ok (.invokevirtual 198, 3) := by decide +kernel
theorem dX8_law_62 : decode cX8_law 62 = .ok (.putfield 81, 3) := by decide +kernel
theorem dX8_law_65 : decode cX8_law 65 = .ok (.aload_n 0, 1) := by decide +kernel
theorem dX8_law_66 : decode cX8_law 66 = .ok (.getfield 42, 3) := by decide +kernel
theorem dX8_law_69 : decode cX8_law 69 = .ok (.iconst 0, 1) := by decide +kernel
theorem dX8_law_70 : decode cX8_law 70 = .ok (.putfield 192, 3) := by decide +kernel
theorem dX8_law_73 : decode cX8_law 73 = .ok (.aload_n 0, 1) := by decide +kernel
theorem dX8_law_74 : decode cX8_law 74 = .ok (.getfield 81, 3) := by decide +kernel
theorem dX8_law_77 : decode cX8_law 77 = .ok (.iconst (-1), 1) := by decide +kernel
theorem dX8_law_78 : decode cX8_law 78 = .ok (.if_icmp .eq 5, 3) := by decide +kernel
theorem dX8_law_81 : decode cX8_law 81 = .ok (.iconst (-1), 1) := by decide +kernel
theorem dX8_law_82 : decode cX8_law 82 = .ok (.ireturn, 1) := by decide +kernel
theorem dX8_law_83 : decode cX8_law 83 = .ok (.aload_n 0, 1) := by decide +kernel
theorem dX8_law_84 : decode cX8_law 84 = .ok (.dup, 1) := by decide +kernel
theorem dX8_law_85 : decode cX8_law 85 = .ok (.getfield 66, 3) := by decide +kernel
theorem dX8_law_88 : decode cX8_law 88 = .ok (.iconst 1, 1) := by decide +kernel
theorem dX8_law_89 : decode cX8_law 89 = .ok (.iadd, 1) := by decide +kernel
theorem dX8_law_90 : decode cX8_law 90 = .ok (.putfield 66, 3) := by decide +kernel
theorem dX8_law_93 : decode cX8_law 93 = .ok (.aload_n 2, 1) := by decide +kernel
theorem dX8_law_94 : decode cX8_law 94 = .ok (.getfield 202, 3) := by decide +kernel
theorem dX8_law_97 : decode cX8_law 97 = .ok (.ireturn, 1) := by decide +kernel
theorem dX8_fault_0 : decode cX8_fault 0 = .ok (.aload_n 0, 1) := by decide +kernel
theorem dX8_fault_1 : decode cX8_fault 1 = .ok (.getfield 81, 3) := by decide +kernel
theorem dX8_fault_4 : decode cX8_fault 4 = .ok (.ireturn, 1) := by decide +kernel
theorem dX8_tells_0 : decode cX8_tells 0 = .ok (.iload_n 1, 1) := by decide +kernel
theorem dX8_tells_1 : decode cX8_tells 1 = .ok (.iconst 0, 1) := by decide +kernel
theorem dX8_tells_2 : decode cX8_tells 2 = .ok (.sipush 1000, 3) := by decide +kernel
theorem dX8_tells_5 : decode cX8_tells 5 = .ok (.invokestatic 90, 3) := by decide +kernel
theorem dX8_tells_8 : decode cX8_tells 8 = .ok (.ifCond .ne 5, 3) := by decide +kernel
theorem dX8_tells_11 : decode cX8_tells 11 = .ok (.iconst (-1), 1) := by decide +kernel
theorem dX8_tells_12 : decode cX8_tells 12 = .ok (.ireturn, 1) := by decide +kernel
theorem dX8_tells_13 : decode cX8_tells 13 = .ok (.aload_n 0, 1) := by decide +kernel
theorem dX8_tells_14 : decode cX8_tells 14 = .ok (.iload_n 1, 1) := by decide +kernel
theorem dX8_tells_15 : decode cX8_tells 15 = .ok (.invokevirtual 101, 3) := by decide +kernel
theorem dX8_tells_18 : decode cX8_tells 18 = .ok (.astore_n 3, 1) := by decide +kernel
theorem dX8_tells_19 : decode cX8_tells 19 = .ok (.iload_n 2, 1) := by decide +kernel
theorem dX8_tells_20 : decode cX8_tells 20 = .ok (.bipush 10, 2) := by decide +kernel
theorem dX8_tells_22 : decode cX8_tells 22 = .ok (.bipush 25, 2) := by decide +kernel
theorem dX8_tells_24 : decode cX8_tells 24 = .ok (.invokestatic 90, 3) := by decide +kernel
theorem dX8_tells_27 : decode cX8_tells 27 = .ok (.ifCond .eq 21, 3) := by decide +kernel
theorem dX8_tells_30 : decode cX8_tells 30 = .ok (.aload_n 3, 1) := by decide +kernel
theorem dX8_tells_31 : decode cX8_tells 31 = .ok (.iload_n 2, 1) := by decide +kernel
theorem dX8_tells_32 : decode cX8_tells 32 = .ok (.bipush 10, 2) := by decide +kernel
theorem dX8_tells_34 : decode cX8_tells 34 = .ok (.isub, 1) := by decide +kernel
theorem dX8_tells_35 : decode cX8_tells 35 = .ok (.iload_n 1, 1) := by decide +kernel
theorem dX8_tells_36 : decode cX8_tells 36 = .ok (.invokevirtual 105, 3) := by decide +kernel
theorem dX8_tells_39 : decode cX8_tells 39 = .ok (.ifCond .eq 7, 3) := by decide +kernel
theorem dX8_tells_42 : decode cX8_tells 42 = .ok (.iconst 1, 1) := by decide +kernel
theorem dX8_tells_43 : decode cX8_tells 43 = .ok (.goto 4, 3) := by decide +kernel
theorem dX8_tells_46 : decode cX8_tells 46 = .ok (.iconst 0, 1) := by decide +kernel
theorem dX8_tells_47 : decode cX8_tells 47 = .ok (.ireturn, 1) := by decide +kernel
theorem dX8_tells_48 : decode cX8_tells 48 = .ok (.iload_n 2, 1) := by decide +kernel
theorem dX8_tells_49 : decode cX8_tells 49 = .ok (.tableswitch 42 0 2 #[27, 32, 37], 27) := by decide +kernel
theorem dX8_tells_76 : decode cX8_tells 76 = .ok (.aload_n 3, 1) := by decide +kernel
theorem dX8_tells_77 : decode cX8_tells 77 = .ok (.getfield 140, 3) := by decide +kernel
theorem dX8_tells_80 : decode cX8_tells 80 = .ok (.ireturn, 1) := by decide +kernel
theorem dX8_tells_81 : decode cX8_tells 81 = .ok (.aload_n 3, 1) := by decide +kernel
theorem dX8_tells_82 : decode cX8_tells 82 = .ok (.getfield 109, 3) := by decide +kernel
theorem dX8_tells_85 : decode cX8_tells 85 = .ok (.ireturn, 1) := by decide +kernel
theorem dX8_tells_86 : decode cX8_tells 86 = .ok (.aload_n 3, 1) := by decide +kernel
theorem dX8_tells_87 : decode cX8_tells 87 = .ok (.getfield 202, 3) := by decide +kernel
theorem dX8_tells_90 : decode cX8_tells 90 = .ok (.ireturn, 1) := by decide +kernel
theorem dX8_tells_91 : decode cX8_tells 91 = .ok (.iconst (-1), 1) := by decide +kernel
theorem dX8_tells_92 : decode cX8_tells 92 = .ok (.ireturn, 1) := by decide +kernel
theorem dX8_bay_0 : decode cX8_bay 0 = .ok (.iload_n 1, 1) := by decide +kernel
theorem dX8_bay_1 : decode cX8_bay 1 = .ok (.invokestatic 86, 3) := by decide +kernel
theorem dX8_bay_4 : decode cX8_bay 4 = .ok (.ifCond .eq 16, 3) := by decide +kernel
theorem dX8_bay_7 : decode cX8_bay 7 = .ok (.aload_n 0, 1) := by decide +kernel
theorem dX8_bay_8 : decode cX8_bay 8 = .ok (.getfield 11, 3) := by decide +kernel
theorem dX8_bay_11 : decode cX8_bay 11 = .ok (.iload_n 1, 1) := by decide +kernel
theorem dX8_bay_12 : decode cX8_bay 12 = .ok (.aaload, 1) := by decide +kernel
theorem dX8_bay_13 : decode cX8_bay 13 = .ok (.iload_n 2, 1) := by decide +kernel
theorem dX8_bay_14 : decode cX8_bay 14 = .ok (.invokevirtual 205, 3) := by decide +kernel
theorem dX8_bay_17 : decode cX8_bay 17 = .ok (.goto 4, 3) := by decide +kernel
theorem dX8_bay_20 : decode cX8_bay 20 = .ok (.iconst (-1), 1) := by decide +kernel
theorem dX8_bay_21 : decode cX8_bay 21 = .ok (.ireturn, 1) := by decide +kernel
theorem dX8_stackOf_0 : decode cX8_stackOf 0 = .ok (.aload_n 0, 1) := by decide +kernel
theorem dX8_stackOf_1 : decode cX8_stackOf 1 = .ok (.iload_n 1, 1) := by decide +kernel
theorem dX8_stackOf_2 : decode cX8_stackOf 2 = .ok (.invokevirtual 146, 3) := by decide +kernel
theorem dX8_stackOf_5 : decode cX8_stackOf 5 = .ok (.ifCond .eq 16, 3) := by decide +kernel
theorem dX8_stackOf_8 : decode cX8_stackOf 8 = .ok (.aload_n 0, 1) := by decide +kernel
theorem dX8_stackOf_9 : decode cX8_stackOf 9 = .ok (.getfield 17, 3) := by decide +kernel
theorem dX8_stackOf_12 : decode cX8_stackOf 12 = .ok (.iload_n 1, 1) := by decide +kernel
theorem dX8_stackOf_13 : decode cX8_stackOf 13 = .ok (.aaload, 1) := by decide +kernel
theorem dX8_stackOf_14 : decode cX8_stackOf 14 = .ok (.iload_n 2, 1) := by decide +kernel
theorem dX8_stackOf_15 : decode cX8_stackOf 15 = .ok (.invokevirtual 208, 3) := by decide +kernel
theorem dX8_stackOf_18 : decode cX8_stackOf 18 = .ok (.goto 4, 3) := by decide +kernel
theorem dX8_stackOf_21 : decode cX8_stackOf 21 = .ok (.iconst (-1), 1) := by decide +kernel
theorem dX8_stackOf_22 : decode cX8_stackOf 22 = .ok (.ireturn, 1) := by decide +kernel
theorem dX8_best_0 : decode cX8_best 0 = .ok (.iload_n 1, 1) := by decide +kernel
theorem dX8_best_1 : decode cX8_best 1 = .ok (.iconst 1, 1) := by decide +kernel
theorem dX8_best_2 : decode cX8_best 2 = .ok (.iconst 3, 1) := by decide +kernel
theorem dX8_best_3 : decode cX8_best 3 = .ok (.invokestatic 90, 3) := by decide +kernel
theorem dX8_best_6 : decode cX8_best 6 = .ok (.ifCond .eq 14, 3) := by decide +kernel
theorem dX8_best_9 : decode cX8_best 9 = .ok (.iload_n 2, 1) := by decide +kernel
theorem dX8_best_10 : decode cX8_best 10 = .ok (.iconst (-1), 1) := by decide +kernel
theorem dX8_best_11 : decode cX8_best 11 = .ok (.iload_n 1, 1) := by decide +kernel
theorem dX8_best_12 : decode cX8_best 12 = .ok (.iconst 1, 1) := by decide +kernel
theorem dX8_best_13 : decode cX8_best 13 = .ok (.isub, 1) := by decide +kernel
theorem dX8_best_14 : decode cX8_best 14 = .ok (.invokestatic 90, 3) := by decide +kernel
theorem dX8_best_17 : decode cX8_best 17 = .ok (.ifCond .ne 5, 3) := by decide +kernel
theorem dX8_best_20 : decode cX8_best 20 = .ok (.iconst (-1), 1) := by decide +kernel
theorem dX8_best_21 : decode cX8_best 21 = .ok (.ireturn, 1) := by decide +kernel
theorem dX8_best_22 : decode cX8_best 22 = .ok (.aload_n 0, 1) := by decide +kernel
theorem dX8_best_23 : decode cX8_best 23 = .ok (.getfield 58, 3) := by decide +kernel
theorem dX8_best_26 : decode cX8_best 26 = .ok (.aload_n 0, 1) := by decide +kernel
theorem dX8_best_27 : decode cX8_best 27 = .ok (.getfield 11, 3) := by decide +kernel
theorem dX8_best_30 : decode cX8_best 30 = .ok (.aload_n 0, 1) := by decide +kernel
theorem dX8_best_31 : decode cX8_best 31 = .ok (.getfield 72, 3) := by decide +kernel
theorem dX8_best_34 : decode cX8_best 34 = .ok (.iload_n 1, 1) := by decide +kernel
theorem dX8_best_35 : decode cX8_best 35 = .ok (.invokevirtual 209, 3) := by decide +kernel
theorem dX8_best_38 : decode cX8_best 38 = .ok (.iload_n 2, 1) := by decide +kernel
theorem dX8_best_39 : decode cX8_best 39 = .ok (.iconst (-1), 1) := by decide +kernel
theorem dX8_best_40 : decode cX8_best 40 = .ok (.if_icmp .ne 13, 3) := by decide +kernel
theorem dX8_best_43 : decode cX8_best 43 = .ok (.aload_n 0, 1) := by decide +kernel
theorem dX8_best_44 : decode cX8_best 44 = .ok (.getfield 58, 3) := by decide +kernel
theorem dX8_best_47 : decode cX8_best 47 = .ok (.getfield 213, 3) := by decide +kernel
theorem dX8_best_50 : decode cX8_best 50 = .ok (.goto 11, 3) := by decide +kernel
theorem dX8_best_53 : decode cX8_best 53 = .ok (.aload_n 0, 1) := by decide +kernel
theorem dX8_best_54 : decode cX8_best 54 = .ok (.getfield 58, 3) := by decide +kernel
theorem dX8_best_57 : decode cX8_best 57 = .ok (.iload_n 2, 1) := by decide +kernel
theorem dX8_best_58 : decode cX8_best 58 = .ok (.invokevirtual 216, 3) := by decide +kernel
theorem dX8_best_61 : decode cX8_best 61 = .ok (.ireturn, 1) := by decide +kernel
theorem dX8_lasts_0 : decode cX8_lasts 0 = .ok (.aload_n 0, 1) := by decide +kernel
theorem dX8_lasts_1 : decode cX8_lasts 1 = .ok (.getfield 35, 3) := by decide +kernel
theorem dX8_lasts_4 : decode cX8_lasts 4 = .ok (.getfield 165, 3) := by decide +kernel
theorem dX8_lasts_7 : decode cX8_lasts 7 = .ok (.ifCond .gt 5, 3) := by decide +kernel
theorem dX8_lasts_10 : decode cX8_lasts 10 = .ok (.iconst (-1), 1) := by decide +kernel
theorem dX8_lasts_11 : decode cX8_lasts 11 = .ok (.ireturn, 1) := by decide +kernel
theorem dX8_lasts_12 : decode cX8_lasts 12 = .ok (.aload_n 0, 1) := by decide +kernel
theorem dX8_lasts_13 : decode cX8_lasts 13 = .ok (.getfield 35, 3) := by decide +kernel
theorem dX8_lasts_16 : decode cX8_lasts 16 = .ok (.getfield 219, 3) := by decide +kernel
theorem dX8_lasts_19 : decode cX8_lasts 19 = .ok (.istore_n 1, 1) := by decide +kernel
theorem dX8_lasts_20 : decode cX8_lasts 20 = .ok (.iconst 0, 1) := by decide +kernel
theorem dX8_lasts_21 : decode cX8_lasts 21 = .ok (.istore_n 2, 1) := by decide +kernel
theorem dX8_lasts_22 : decode cX8_lasts 22 = .ok (.iload_n 2, 1) := by decide +kernel
theorem dX8_lasts_23 : decode cX8_lasts 23 = .ok (.aload_n 0, 1) := by decide +kernel
theorem dX8_lasts_24 : decode cX8_lasts 24 = .ok (.getfield 62, 3) := by decide +kernel
theorem dX8_lasts_27 : decode cX8_lasts 27 = .ok (.if_icmp .ge 33, 3) := by decide +kernel
theorem dX8_lasts_30 : decode cX8_lasts 30 = .ok (.aload_n 0, 1) := by decide +kernel
theorem dX8_lasts_31 : decode cX8_lasts 31 = .ok (.getfield 17, 3) := by decide +kernel
theorem dX8_lasts_34 : decode cX8_lasts 34 = .ok (.iload_n 2, 1) := by decide +kernel
theorem dX8_lasts_35 : decode cX8_lasts 35 = .ok (.aaload, 1) := by decide +kernel
theorem dX8_lasts_36 : decode cX8_lasts 36 = .ok (.getfield 222, 3) := by decide +kernel
theorem dX8_lasts_39 : decode cX8_lasts 39 = .ok (.ifCond .ne 15, 3) := by decide +kernel
theorem dX8_lasts_42 : decode cX8_lasts 42 = .ok (.iload_n 1, 1) := by decide +kernel
theorem dX8_lasts_43 : decode cX8_lasts 43 = .ok (.aload_n 0, 1) := by decide +kernel
theorem dX8_lasts_44 : decode cX8_lasts 44 = .ok (.getfield 17, 3) := by decide +kernel
theorem dX8_lasts_47 : decode cX8_lasts 47 = .ok (.iload_n 2, 1) := by decide +kernel
theorem dX8_lasts_48 : decode cX8_lasts 48 = .ok (.aaload, 1) := by decide +kernel
theorem dX8_lasts_49 : decode cX8_lasts 49 = .ok (.getfield 226, 3) := by decide +kernel
theorem dX8_lasts_52 : decode cX8_lasts 52 = .ok (.iadd, 1) := by decide +kernel
theorem dX8_lasts_53 : decode cX8_lasts 53 = .ok (.istore_n 1, 1) := by decide +kernel
theorem dX8_lasts_54 : decode cX8_lasts 54 = .ok (.iinc 2 1, 3) := by decide +kernel
theorem dX8_lasts_57 : decode cX8_lasts 57 = .ok (.goto (-35), 3) := by decide +kernel
theorem dX8_lasts_60 : decode cX8_lasts 60 = .ok (.iload_n 1, 1) := by decide +kernel
theorem dX8_lasts_61 : decode cX8_lasts 61 = .ok (.aload_n 0, 1) := by decide +kernel
theorem dX8_lasts_62 : decode cX8_lasts 62 = .ok (.getfield 35, 3) := by decide +kernel
theorem dX8_lasts_65 : decode cX8_lasts 65 = .ok (.getfield 165, 3) := by decide +kernel
theorem dX8_lasts_68 : decode cX8_lasts 68 = .ok (.idiv, 1) := by decide +kernel
theorem dX8_lasts_69 : decode cX8_lasts 69 = .ok (.ireturn, 1) := by decide +kernel
theorem dX8_count_0 : decode cX8_count 0 = .ok (.iload_n 1, 1) := by decide +kernel
theorem dX8_count_1 : decode cX8_count 1 = .ok (.tableswitch 150 0 12 #[67, 72, 77, 82, 90, 98, 106, 114, 122, 127, 132, 137, 142], 67) := by decide +kernel
theorem dX8_count_68 : decode cX8_count 68 = .ok (.aload_n 0, 1) := by decide +kernel
theorem dX8_count_69 : decode cX8_count 69 = .ok (.getfield 69, 3) := by decide +kernel
theorem dX8_count_72 : decode cX8_count 72 = .ok (.ireturn, 1) := by decide +kernel
theorem dX8_count_73 : decode cX8_count 73 = .ok (.aload_n 0, 1) := by decide +kernel
theorem dX8_count_74 : decode cX8_count 74 = .ok (.getfield 72, 3) := by decide +kernel
theorem dX8_count_77 : decode cX8_count 77 = .ok (.ireturn, 1) := by decide +kernel
theorem dX8_count_78 : decode cX8_count 78 = .ok (.aload_n 0, 1) := by decide +kernel
theorem dX8_count_79 : decode cX8_count 79 = .ok (.getfield 75, 3) := by decide +kernel
theorem dX8_count_82 : decode cX8_count 82 = .ok (.ireturn, 1) := by decide +kernel
theorem dX8_count_83 : decode cX8_count 83 = .ok (.aload_n 0, 1) := by decide +kernel
theorem dX8_count_84 : decode cX8_count 84 = .ok (.getfield 35, 3) := by decide +kernel
theorem dX8_count_87 : decode cX8_count 87 = .ok (.getfield 165, 3) := by decide +kernel
theorem dX8_count_90 : decode cX8_count 90 = .ok (.ireturn, 1) := by decide +kernel
theorem dX8_count_91 : decode cX8_count 91 = .ok (.aload_n 0, 1) := by decide +kernel
theorem dX8_count_92 : decode cX8_count 92 = .ok (.getfield 35, 3) := by decide +kernel
theorem dX8_count_95 : decode cX8_count 95 = .ok (.getfield 219, 3) := by decide +kernel
theorem dX8_count_98 : decode cX8_count 98 = .ok (.ireturn, 1) := by decide +kernel
theorem dX8_count_99 : decode cX8_count 99 = .ok (.aload_n 0, 1) := by decide +kernel
theorem dX8_count_100 : decode cX8_count 100 = .ok (.getfield 35, 3) := by decide +kernel
theorem dX8_count_103 : decode cX8_count 103 = .ok (.getfield 227, 3) := by decide +kernel
theorem dX8_count_106 : decode cX8_count 106 = .ok (.ireturn, 1) := by decide +kernel
theorem dX8_count_107 : decode cX8_count 107 = .ok (.aload_n 0, 1) := by decide +kernel
theorem dX8_count_108 : decode cX8_count 108 = .ok (.getfield 35, 3) := by decide +kernel
theorem dX8_count_111 : decode cX8_count 111 = .ok (.getfield 230, 3) := by decide +kernel
theorem dX8_count_114 : decode cX8_count 114 = .ok (.ireturn, 1) := by decide +kernel
theorem dX8_count_115 : decode cX8_count 115 = .ok (.aload_n 0, 1) := by decide +kernel
theorem dX8_count_116 : decode cX8_count 116 = .ok (.getfield 35, 3) := by decide +kernel
theorem dX8_count_119 : decode cX8_count 119 = .ok (.getfield 233, 3) := by decide +kernel
theorem dX8_count_122 : decode cX8_count 122 = .ok (.ireturn, 1) := by decide +kernel
theorem dX8_count_123 : decode cX8_count 123 = .ok (.aload_n 0, 1) := by decide +kernel
theorem dX8_count_124 : decode cX8_count 124 = .ok (.getfield 78, 3) := by decide +kernel
theorem dX8_count_127 : decode cX8_count 127 = .ok (.ireturn, 1) := by decide +kernel
theorem dX8_count_128 : decode cX8_count 128 = .ok (.aload_n 0, 1) := by decide +kernel
theorem dX8_count_129 : decode cX8_count 129 = .ok (.invokevirtual 236, 3) := by decide +kernel
theorem dX8_count_132 : decode cX8_count 132 = .ok (.ireturn, 1) := by decide +kernel
theorem dX8_count_133 : decode cX8_count 133 = .ok (.aload_n 0, 1) := by decide +kernel
theorem dX8_count_134 : decode cX8_count 134 = .ok (.getfield 62, 3) := by decide +kernel
theorem dX8_count_137 : decode cX8_count 137 = .ok (.ireturn, 1) := by decide +kernel
theorem dX8_count_138 : decode cX8_count 138 = .ok (.aload_n 0, 1) := by decide +kernel
theorem dX8_count_139 : decode cX8_count 139 = .ok (.getfield 66, 3) := by decide +kernel
theorem dX8_count_142 : decode cX8_count 142 = .ok (.ireturn, 1) := by decide +kernel
theorem dX8_count_143 : decode cX8_count 143 = .ok (.aload_n 0, 1) := by decide +kernel
theorem dX8_count_144 : decode cX8_count 144 = .ok (.getfield 42, 3) := by decide +kernel
theorem dX8_count_147 : decode cX8_count 147 = .ok (.getfield 192, 3) := by decide +kernel
theorem dX8_count_150 : decode cX8_count 150 = .ok (.ireturn, 1) := by decide +kernel
theorem dX8_count_151 : decode cX8_count 151 = .ok (.iconst (-1), 1) := by decide +kernel
theorem dX8_count_152 : decode cX8_count 152 = .ok (.ireturn, 1) := by decide +kernel
theorem dX8_within_0 : decode cX8_within 0 = .ok (.iload_n 0, 1) := by decide +kernel
theorem dX8_within_1 : decode cX8_within 1 = .ok (.iload_n 1, 1) := by decide +kernel
theorem dX8_within_2 : decode cX8_within 2 = .ok (.if_icmp .lt 12, 3) := by decide +kernel
theorem dX8_within_5 : decode cX8_within 5 = .ok (.iload_n 0, 1) := by decide +kernel
theorem dX8_within_6 : decode cX8_within 6 = .ok (.iload_n 2, 1) := by decide +kernel
theorem dX8_within_7 : decode cX8_within 7 = .ok (.if_icmp .gt 7, 3) := by decide +kernel
theorem dX8_within_10 : decode cX8_within 10 = .ok (.iconst 1, 1) := by decide +kernel
theorem dX8_within_11 : decode cX8_within 11 = .ok (.goto 4, 3) := by decide +kernel
theorem dX8_within_14 : decode cX8_within 14 = .ok (.iconst 0, 1) := by decide +kernel
theorem dX8_within_15 : decode cX8_within 15 = .ok (.ireturn, 1) := by decide +kernel
theorem dX8_isBay_0 : decode cX8_isBay 0 = .ok (.iload_n 0, 1) := by decide +kernel
theorem dX8_isBay_1 : decode cX8_isBay 1 = .ok (.iconst 0, 1) := by decide +kernel
theorem dX8_isBay_2 : decode cX8_isBay 2 = .ok (.bipush 15, 2) := by decide +kernel
theorem dX8_isBay_4 : decode cX8_isBay 4 = .ok (.invokestatic 90, 3) := by decide +kernel
theorem dX8_isBay_7 : decode cX8_isBay 7 = .ok (.ireturn, 1) := by decide +kernel
theorem dX8_isStack_0 : decode cX8_isStack 0 = .ok (.iload_n 1, 1) := by decide +kernel
theorem dX8_isStack_1 : decode cX8_isStack 1 = .ok (.iconst 0, 1) := by decide +kernel
theorem dX8_isStack_2 : decode cX8_isStack 2 = .ok (.aload_n 0, 1) := by decide +kernel
theorem dX8_isStack_3 : decode cX8_isStack 3 = .ok (.getfield 62, 3) := by decide +kernel
theorem dX8_isStack_6 : decode cX8_isStack 6 = .ok (.iconst 1, 1) := by decide +kernel
theorem dX8_isStack_7 : decode cX8_isStack 7 = .ok (.isub, 1) := by decide +kernel
theorem dX8_isStack_8 : decode cX8_isStack 8 = .ok (.invokestatic 90, 3) := by decide +kernel
theorem dX8_isStack_11 : decode cX8_isStack 11 = .ok (.ireturn, 1) := by decide +kernel
theorem dX8_lawOn_0 : decode cX8_lawOn 0 = .ok (.aload_n 0, 1) := by decide +kernel
theorem dX8_lawOn_1 : decode cX8_lawOn 1 = .ok (.getfield 66, 3) := by decide +kernel
theorem dX8_lawOn_4 : decode cX8_lawOn 4 = .ok (.iconst 1, 1) := by decide +kernel
theorem dX8_lawOn_5 : decode cX8_lawOn 5 = .ok (.isub, 1) := by decide +kernel
theorem dX8_lawOn_6 : decode cX8_lawOn 6 = .ok (.istore_n 2, 1) := by decide +kernel
theorem dX8_lawOn_7 : decode cX8_lawOn 7 = .ok (.iload_n 2, 1) := by decide +kernel
theorem dX8_lawOn_8 : decode cX8_lawOn 8 = .ok (.ifCond .lt 29, 3) := by decide +kernel
theorem dX8_lawOn_11 : decode cX8_lawOn 11 = .ok (.aload_n 0, 1) := by decide +kernel
theorem dX8_lawOn_12 : decode cX8_lawOn 12 = .ok (.getfield 23, 3) := by decide +kernel
theorem dX8_lawOn_15 : decode cX8_lawOn 15 = .ok (.iload_n 2, 1) := by decide +kernel
theorem dX8_lawOn_16 : decode cX8_lawOn 16 = .ok (.aaload, 1) := by decide +kernel
theorem dX8_lawOn_17 : decode cX8_lawOn 17 = .ok (.getfield 240, 3) := by decide +kernel
theorem dX8_lawOn_20 : decode cX8_lawOn 20 = .ok (.iload_n 1, 1) := by decide +kernel
theorem dX8_lawOn_21 : decode cX8_lawOn 21 = .ok (.if_icmp .gt 10, 3) := by decide +kernel
theorem dX8_lawOn_24 : decode cX8_lawOn 24 = .ok (.aload_n 0, 1) := by decide +kernel
theorem dX8_lawOn_25 : decode cX8_lawOn 25 = .ok (.getfield 23, 3) := by decide +kernel
theorem dX8_lawOn_28 : decode cX8_lawOn 28 = .ok (.iload_n 2, 1) := by decide +kernel
theorem dX8_lawOn_29 : decode cX8_lawOn 29 = .ok (.aaload, 1) := by decide +kernel
theorem dX8_lawOn_30 : decode cX8_lawOn 30 = .ok (.areturn, 1) := by decide +kernel
theorem dX8_lawOn_31 : decode cX8_lawOn 31 = .ok (.iinc 2 (-1), 3) := by decide +kernel
theorem dX8_lawOn_34 : decode cX8_lawOn 34 = .ok (.goto (-27), 3) := by decide +kernel
theorem dX8_lawOn_37 : decode cX8_lawOn 37 = .ok (.aload_n 0, 1) := by decide +kernel
theorem dX8_lawOn_38 : decode cX8_lawOn 38 = .ok (.getfield 28, 3) := by decide +kernel
theorem dX8_lawOn_41 : decode cX8_lawOn 41 = .ok (.areturn, 1) := by decide +kernel
theorem dX8_applyLaw_0 : decode cX8_applyLaw 0 = .ok (.iconst 0, 1) := by decide +kernel
theorem dX8_applyLaw_1 : decode cX8_applyLaw 1 = .ok (.istore_n 2, 1) := by decide +kernel
theorem dX8_applyLaw_2 : decode cX8_applyLaw 2 = .ok (.iload_n 2, 1) := by decide +kernel
theorem dX8_applyLaw_3 : decode cX8_applyLaw 3 = .ok (.aload_n 0, 1) := by decide +kernel
theorem dX8_applyLaw_4 : decode cX8_applyLaw 4 = .ok (.getfield 62, 3) := by decide +kernel
theorem dX8_applyLaw_7 : decode cX8_applyLaw 7 = .ok (.if_icmp .ge 89, 3) := by decide +kernel
theorem dX8_applyLaw_10 : decode cX8_applyLaw 10 = .ok (.aload_n 0, 1) := by decide +kernel
theorem dX8_applyLaw_11 : decode cX8_applyLaw 11 = .ok (.getfield 17, 3) := by decide +kernel
theorem dX8_applyLaw_14 : decode cX8_applyLaw 14 = .ok (.iload_n 2, 1) := by decide +kernel
theorem dX8_applyLaw_15 : decode cX8_applyLaw 15 = .ok (.aaload, 1) := by decide +kernel
theorem dX8_applyLaw_16 : decode cX8_applyLaw 16 = .ok (.astore_n 3, 1) := by decide +kernel
theorem dX8_applyLaw_17 : decode cX8_applyLaw 17 = .ok (.aload_n 3, 1) := by decide +kernel
theorem dX8_applyLaw_18 : decode cX8_applyLaw 18 = .ok (.getfield 226, 3) := by decide +kernel
theorem dX8_applyLaw_21 : decode cX8_applyLaw 21 = .ok (.ifCond .le 69, 3) := by decide +kernel
theorem dX8_applyLaw_24 : decode cX8_applyLaw 24 = .ok (.aload_n 3, 1) := by decide +kernel
theorem dX8_applyLaw_25 : decode cX8_applyLaw 25 = .ok (.getfield 222, 3) := by decide +kernel
theorem dX8_applyLaw_28 : decode cX8_applyLaw 28 = .ok (.ifCond .eq 6, 3) := by decide +kernel
theorem dX8_applyLaw_31 : decode cX8_applyLaw 31 = .ok (.goto 59, 3) := by decide +kernel
theorem dX8_applyLaw_34 : decode cX8_applyLaw 34 = .ok (.aload_n 1, 1) := by decide +kernel
theorem dX8_applyLaw_35 : decode cX8_applyLaw 35 = .ok (.aload_n 3, 1) := by decide +kernel
theorem dX8_applyLaw_36 : decode cX8_applyLaw 36 = .ok (.aload_n 0, 1) := by decide +kernel
theorem dX8_applyLaw_37 : decode cX8_applyLaw 37 = .ok (.getfield 69, 3) := by decide +kernel
theorem dX8_applyLaw_40 : decode cX8_applyLaw 40 = .ok (.aload_n 3, 1) := by decide +kernel
theorem dX8_applyLaw_41 : decode cX8_applyLaw 41 = .ok (.getfield 126, 3) := by decide +kernel
theorem dX8_applyLaw_44 : decode cX8_applyLaw 44 = .ok (.isub, 1) := by decide +kernel
theorem dX8_applyLaw_45 : decode cX8_applyLaw 45 = .ok (.bipush 7, 2) := by decide +kernel
theorem dX8_applyLaw_47 : decode cX8_applyLaw 47 = .ok (.idiv, 1) := by decide +kernel
theorem dX8_applyLaw_48 : decode cX8_applyLaw 48 = .ok (.invokevirtual 243, 3) := by decide +kernel
theorem dX8_applyLaw_51 : decode cX8_applyLaw 51 = .ok (.istore 4, 2) := by decide +kernel
theorem dX8_applyLaw_53 : decode cX8_applyLaw 53 = .ok (.iload 4, 2) := by decide +kernel
theorem dX8_applyLaw_55 : decode cX8_applyLaw 55 = .ok (.bipush 9, 2) := by decide +kernel
theorem dX8_applyLaw_57 : decode cX8_applyLaw 57 = .ok (.if_icmp .ne 10, 3) := by decide +kernel
theorem dX8_applyLaw_60 : decode cX8_applyLaw 60 = .ok (.aload_n 3, 1) := by decide +kernel
theorem dX8_applyLaw_61 : decode cX8_applyLaw 61 = .ok (.invokevirtual 249, 3) := by decide +kernel
theorem dX8_applyLaw_64 : decode cX8_applyLaw 64 = .ok (.goto 26, 3) := by decide +kernel
theorem dX8_applyLaw_67 : decode cX8_applyLaw 67 = .ok (.iload 4, 2) := by decide +kernel
theorem dX8_applyLaw_69 : decode cX8_applyLaw 69 = .ok (.bipush 10, 2) := by decide +kernel
theorem dX8_applyLaw_71 : decode cX8_applyLaw 71 = .ok (.if_icmp .ne 19, 3) := by decide +kernel
theorem dX8_applyLaw_74 : decode cX8_applyLaw 74 = .ok (.aload_n 0, 1) := by decide +kernel
theorem dX8_applyLaw_75 : decode cX8_applyLaw 75 = .ok (.getfield 35, 3) := by decide +kernel
theorem dX8_applyLaw_78 : decode cX8_applyLaw 78 = .ok (.dup, 1) := by decide +kernel
theorem dX8_applyLaw_79 : decode cX8_applyLaw 79 = .ok (.getfield 219, 3) := by decide +kernel
theorem dX8_applyLaw_82 : decode cX8_applyLaw 82 = .ok (.aload_n 3, 1) := by decide +kernel
theorem dX8_applyLaw_83 : decode cX8_applyLaw 83 = .ok (.invokevirtual 252, 3) := by decide +kernel
theorem dX8_applyLaw_86 : decode cX8_applyLaw 86 = .ok (.iadd, 1) := by decide +kernel
theorem dX8_applyLaw_87 : decode cX8_applyLaw 87 = .ok (.putfield 219, 3) := by decide +kernel
theorem dX8_applyLaw_90 : decode cX8_applyLaw 90 = .ok (.iinc 2 1, 3) := by decide +kernel
theorem dX8_applyLaw_93 : decode cX8_applyLaw 93 = .ok (.goto (-91), 3) := by decide +kernel
theorem dX8_applyLaw_96 : decode cX8_applyLaw 96 = .ok (.return_, 1) := by decide +kernel
theorem dX8_weightInStacks_0 : decode cX8_weightInStacks 0 = .ok (.iconst 0, 1) := by decide +kernel
theorem dX8_weightInStacks_1 : decode cX8_weightInStacks 1 = .ok (.istore_n 1, 1) := by decide +kernel
theorem dX8_weightInStacks_2 : decode cX8_weightInStacks 2 = .ok (.iconst 0, 1) := by decide +kernel
theorem dX8_weightInStacks_3 : decode cX8_weightInStacks 3 = .ok (.istore_n 2, 1) := by decide +kernel
theorem dX8_weightInStacks_4 : decode cX8_weightInStacks 4 = .ok (.iload_n 2, 1) := by decide +kernel
theorem dX8_weightInStacks_5 : decode cX8_weightInStacks 5 = .ok (.aload_n 0, 1) := by decide +kernel
theorem dX8_weightInStacks_6 : decode cX8_weightInStacks 6 = .ok (.getfield 62, 3) := by decide +kernel
theorem dX8_weightInStacks_9 : decode cX8_weightInStacks 9 = .ok (.if_icmp .ge 21, 3) := by decide +kernel
theorem dX8_weightInStacks_12 : decode cX8_weightInStacks 12 = .ok (.iload_n 1, 1) := by decide +kernel
theorem dX8_weightInStacks_13 : decode cX8_weightInStacks 13 = .ok (.aload_n 0, 1) := by decide +kernel
theorem dX8_weightInStacks_14 : decode cX8_weightInStacks 14 = .ok (.getfield 17, 3) := by decide +kernel
theorem dX8_weightInStacks_17 : decode cX8_weightInStacks 17 = .ok (.iload_n 2, 1) := by decide +kernel
theorem dX8_weightInStacks_18 : decode cX8_weightInStacks 18 = .ok (.aaload, 1) := by decide +kernel
theorem dX8_weightInStacks_19 : decode cX8_weightInStacks 19 = .ok (.getfield 226, 3) := by decide +kernel
theorem dX8_weightInStacks_22 : decode cX8_weightInStacks 22 = .ok (.iadd, 1) := by decide +kernel
theorem dX8_weightInStacks_23 : decode cX8_weightInStacks 23 = .ok (.istore_n 1, 1) := by decide +kernel
theorem dX8_weightInStacks_24 : decode cX8_weightInStacks 24 = .ok (.iinc 2 1, 3) := by decide +kernel
theorem dX8_weightInStacks_27 : decode cX8_weightInStacks 27 = .ok (.goto (-23), 3) := by decide +kernel
theorem dX8_weightInStacks_30 : decode cX8_weightInStacks 30 = .ok (.iload_n 1, 1) := by decide +kernel
theorem dX8_weightInStacks_31 : decode cX8_weightInStacks 31 = .ok (.ireturn, 1) := by decide +kernel
theorem dX9_init_0 : decode cX9_init 0 = .ok (.aload_n 0, 1) := by decide +kernel
theorem dX9_init_1 : decode cX9_init 1 = .ok (.invokespecial 1, 3) := by decide +kernel
theorem dX9_init_4 : decode cX9_init 4 = .ok (.aload_n 0, 1) := by decide +kernel
theorem dX9_init_5 : decode cX9_init 5 = .ok (.bipush 16, 2) := by decide +kernel
theorem dX9_init_7 : decode cX9_init 7 = .ok (.newarray .int, 2) := by decide +kernel
theorem dX9_init_9 : decode cX9_init 9 = .ok (.putfield 7, 3) := by decide +kernel
theorem dX9_init_12 : decode cX9_init 12 = .ok (.aload_n 0, 1) := by decide +kernel
theorem dX9_init_13 : decode cX9_init 13 = .ok (.bipush 16, 2) := by decide +kernel
theorem dX9_init_15 : decode cX9_init 15 = .ok (.newarray .int, 2) := by decide +kernel
theorem dX9_init_17 : decode cX9_init 17 = .ok (.putfield 13, 3) := by decide +kernel
theorem dX9_init_20 : decode cX9_init 20 = .ok (.aload_n 0, 1) := by decide +kernel
theorem dX9_init_21 : decode cX9_init 21 = .ok (.bipush 16, 2) := by decide +kernel
theorem dX9_init_23 : decode cX9_init 23 = .ok (.newarray .int, 2) := by decide +kernel
theorem dX9_init_25 : decode cX9_init 25 = .ok (.putfield 16, 3) := by decide +kernel
theorem dX9_init_28 : decode cX9_init 28 = .ok (.aload_n 0, 1) := by decide +kernel
theorem dX9_init_29 : decode cX9_init 29 = .ok (.bipush 16, 2) := by decide +kernel
theorem dX9_init_31 : decode cX9_init 31 = .ok (.newarray .int, 2) := by decide +kernel
theorem dX9_init_33 : decode cX9_init 33 = .ok (.putfield 19, 3) := by decide +kernel
theorem dX9_init_36 : decode cX9_init 36 = .ok (.aload_n 0, 1) := by decide +kernel
theorem dX9_init_37 : decode cX9_init 37 = .ok (.bipush 16, 2) := by decide +kernel
theorem dX9_init_39 : decode cX9_init 39 = .ok (.newarray .int, 2) := by decide +kernel
theorem dX9_init_41 : decode cX9_init 41 = .ok (.putfield 22, 3) := by decide +kernel
theorem dX9_init_44 : decode cX9_init 44 = .ok (.aload_n 0, 1) := by decide +kernel
theorem dX9_init_45 : decode cX9_init 45 = .ok (.bipush 16, 2) := by decide +kernel
theorem dX9_init_47 : decode cX9_init 47 = .ok (.newarray .int, 2) := by decide +kernel
theorem dX9_init_49 : decode cX9_init 49 = .ok (.putfield 25, 3) := by decide +kernel
theorem dX9_init_52 : decode cX9_init 52 = .ok (.aload_n 0, 1) := by decide +kernel
theorem dX9_init_53 : decode cX9_init 53 = .ok (.bipush 16, 2) := by decide +kernel
theorem dX9_init_55 : decode cX9_init 55 = .ok (.newarray .int, 2) := by decide +kernel
theorem dX9_init_57 : decode cX9_init 57 = .ok (.putfield 28, 3) := by decide +kernel
theorem dX9_init_60 : decode cX9_init 60 = .ok (.aload_n 0, 1) := by decide +kernel
theorem dX9_init_61 : decode cX9_init 61 = .ok (.bipush 10, 2) := by decide +kernel
theorem dX9_init_63 : decode cX9_init 63 = .ok (.newarray .int, 2) := by decide +kernel
theorem dX9_init_65 : decode cX9_init 65 = .ok (.putfield 31, 3) := by decide +kernel
theorem dX9_init_68 : decode cX9_init 68 = .ok (.aload_n 0, 1) := by decide +kernel
theorem dX9_init_69 : decode cX9_init 69 = .ok (.bipush 10, 2) := by decide +kernel
theorem dX9_init_71 : decode cX9_init 71 = .ok (.newarray .int, 2) := by decide +kernel
theorem dX9_init_73 : decode cX9_init 73 = .ok (.putfield 34, 3) := by decide +kernel
theorem dX9_init_76 : decode cX9_init 76 = .ok (.aload_n 0, 1) := by decide +kernel
theorem dX9_init_77 : decode cX9_init 77 = .ok (.bipush 10, 2) := by decide +kernel
theorem dX9_init_79 : decode cX9_init 79 = .ok (.newarray .int, 2) := by decide +kernel
theorem dX9_init_81 : decode cX9_init 81 = .ok (.putfield 37, 3) := by decide +kernel
theorem dX9_init_84 : decode cX9_init 84 = .ok (.aload_n 0, 1) := by decide +kernel
theorem dX9_init_85 : decode cX9_init 85 = .ok (.bipush 10, 2) := by decide +kernel
theorem dX9_init_87 : decode cX9_init 87 = .ok (.newarray .int, 2) := by decide +kernel
theorem dX9_init_89 : decode cX9_init 89 = .ok (.putfield 40, 3) := by decide +kernel
theorem dX9_init_92 : decode cX9_init 92 = .ok (.aload_n 0, 1) := by decide +kernel
theorem dX9_init_93 : decode cX9_init 93 = .ok (.bipush 10, 2) := by decide +kernel
theorem dX9_init_95 : decode cX9_init 95 = .ok (.newarray .int, 2) := by decide +kernel
theorem dX9_init_97 : decode cX9_init 97 = .ok (.putfield 43, 3) := by decide +kernel
theorem dX9_init_100 : decode cX9_init 100 = .ok (.aload_n 0, 1) := by decide +kernel
theorem dX9_init_101 : decode cX9_init 101 = .ok (.bipush 10, 2) := by decide +kernel
theorem dX9_init_103 : decode cX9_init 103 = .ok (.newarray .int, 2) := by decide +kernel
theorem dX9_init_105 : decode cX9_init 105 = .ok (.putfield 46, 3) := by decide +kernel
theorem dX9_init_108 : decode cX9_init 108 = .ok (.aload_n 0, 1) := by decide +kernel
theorem dX9_init_109 : decode cX9_init 109 = .ok (.bipush 10, 2) := by decide +kernel
theorem dX9_init_111 : decode cX9_init 111 = .ok (.newarray .int, 2) := by decide +kernel
theorem dX9_init_113 : decode cX9_init 113 = .ok (.putfield 49, 3) := by decide +kernel
theorem dX9_init_116 : decode cX9_init 116 = .ok (.aload_n 0, 1) := by decide +kernel
theorem dX9_init_117 : decode cX9_init 117 = .ok (.bipush 10, 2) := by decide +kernel
theorem dX9_init_119 : decode cX9_init 119 = .ok (.newarray .boolean, 2) := by decide +kernel
theorem dX9_init_121 : decode cX9_init 121 = .ok (.putfield 52, 3) := by decide +kernel
theorem dX9_init_124 : decode cX9_init 124 = .ok (.aload_n 0, 1) := by decide +kernel
theorem dX9_init_125 : decode cX9_init 125 = .ok (.sipush 500, 3) := by decide +kernel
theorem dX9_init_128 : decode cX9_init 128 = .ok (.newarray .byte, 2) := by decide +kernel
theorem dX9_init_130 : decode cX9_init 130 = .ok (.putfield 56, 3) := by decide +kernel
theorem dX9_init_133 : decode cX9_init 133 = .ok (.aload_n 0, 1) := by decide +kernel
theorem dX9_init_134 : decode cX9_init 134 = .ok (.sipush 500, 3) := by decide +kernel
theorem dX9_init_137 : decode cX9_init 137 = .ok (.newarray .byte, 2) := by decide +kernel
theorem dX9_init_139 : decode cX9_init 139 = .ok (.putfield 60, 3) := by decide +kernel
theorem dX9_init_142 : decode cX9_init 142 = .ok (.aload_n 0, 1) := by decide +kernel
theorem dX9_init_143 : decode cX9_init 143 = .ok (.iconst (-1), 1) := by decide +kernel
theorem dX9_init_144 : decode cX9_init 144 = .ok (.putfield 63, 3) := by decide +kernel
theorem dX9_init_147 : decode cX9_init 147 = .ok (.aload_n 0, 1) := by decide +kernel
theorem dX9_init_148 : decode cX9_init 148 = .ok (.bipush 9, 2) := by decide +kernel
theorem dX9_init_150 : decode cX9_init 150 = .ok (.newarray .int, 2) := by decide +kernel
theorem dX9_init_152 : decode cX9_init 152 = .ok (.putfield 67, 3) := by decide +kernel
theorem dX9_init_155 : decode cX9_init 155 = .ok (.aload_n 0, 1) := by decide +kernel
theorem dX9_init_156 : decode cX9_init 156 = .ok (.bipush 9, 2) := by decide +kernel
theorem dX9_init_158 : decode cX9_init 158 = .ok (.newarray .int, 2) := by decide +kernel
theorem dX9_init_160 : decode cX9_init 160 = .ok (.putfield 70, 3) := by decide +kernel
theorem dX9_init_163 : decode cX9_init 163 = .ok (.aload_n 0, 1) := by decide +kernel
theorem dX9_init_164 : decode cX9_init 164 = .ok (.sipush 144, 3) := by decide +kernel
theorem dX9_init_167 : decode cX9_init 167 = .ok (.newarray .int, 2) := by decide +kernel
theorem dX9_init_169 : decode cX9_init 169 = .ok (.putfield 73, 3) := by decide +kernel
theorem dX9_init_172 : decode cX9_init 172 = .ok (.aload_n 0, 1) := by decide +kernel
theorem dX9_init_173 : decode cX9_init 173 = .ok (.sipush 144, 3) := by decide +kernel
theorem dX9_init_176 : decode cX9_init 176 = .ok (.newarray .int, 2) := by decide +kernel
theorem dX9_init_178 : decode cX9_init 178 = .ok (.putfield 76, 3) := by decide +kernel
theorem dX9_init_181 : decode cX9_init 181 = .ok (.aload_n 0, 1) := by decide +kernel
theorem dX9_init_182 : decode cX9_init 182 = .ok (.sipush 144, 3) := by decide +kernel
theorem dX9_init_185 : decode cX9_init 185 = .ok (.newarray .int, 2) := by decide +kernel
theorem dX9_init_187 : decode cX9_init 187 = .ok (.putfield 79, 3) := by decide +kernel
theorem dX9_init_190 : decode cX9_init 190 = .ok (.aload_n 0, 1) := by decide +kernel
theorem dX9_init_191 : decode cX9_init 191 = .ok (.sipush 144, 3) := by decide +kernel
theorem dX9_init_194 : decode cX9_init 194 = .ok (.newarray .int, 2) := by decide +kernel
theorem dX9_init_196 : decode cX9_init 196 = .ok (.putfield 82, 3) := by decide +kernel
theorem dX9_init_199 : decode cX9_init 199 = .ok (.aload_n 0, 1) := by decide +kernel
theorem dX9_init_200 : decode cX9_init 200 = .ok (.sipush 144, 3) := by decide +kernel
theorem dX9_init_203 : decode cX9_init 203 = .ok (.newarray .int, 2) := by decide +kernel
theorem dX9_init_205 : decode cX9_init 205 = .ok (.putfield 85, 3) := by decide +kernel
theorem dX9_init_208 : decode cX9_init 208 = .ok (.aload_n 0, 1) := by decide +kernel
theorem dX9_init_209 : decode cX9_init 209 = .ok (.sipush 144, 3) := by decide +kernel
theorem dX9_init_212 : decode cX9_init 212 = .ok (.newarray .int, 2) := by decide +kernel
theorem dX9_init_214 : decode cX9_init 214 = .ok (.putfield 88, 3) := by decide +kernel
theorem dX9_init_217 : decode cX9_init 217 = .ok (.aload_n 0, 1) := by decide +kernel
theorem dX9_init_218 : decode cX9_init 218 = .ok (.sipush 432, 3) := by decide +kernel
theorem dX9_init_221 : decode cX9_init 221 = .ok (.newarray .int, 2) := by decide +kernel
theorem dX9_init_223 : decode cX9_init 223 = .ok (.putfield 91, 3) := by decide +kernel
end
section
theorem dX9_init_226 : decode cX9_init 226 = .ok (.aload_n 0, 1) := by decide +kernel
theorem dX9_init_227 : decode cX9_init 227 = .ok (.sipush 432, 3) := by decide +kernel
theorem dX9_init_230 : decode cX9_init 230 = .ok (.newarray .int, 2) := by decide +kernel
theorem dX9_init_232 : decode cX9_init 232 = .ok (.putfield 94, 3) := by decide +kernel
theorem dX9_init_235 : decode cX9_init 235 = .ok (.aload_n 0, 1) := by decide +kernel
theorem dX9_init_236 : decode cX9_init 236 = .ok (.sipush 432, 3) := by decide +kernel
theorem dX9_init_239 : decode cX9_init 239 = .ok (.newarray .int, 2) := by decide +kernel
theorem dX9_init_241 : decode cX9_init 241 = .ok (.putfield 97, 3) := by decide +kernel
theorem dX9_init_244 : decode cX9_init 244 = .ok (.aload_n 0, 1) := by decide +kernel
theorem dX9_init_245 : decode cX9_init 245 = .ok (.iconst 3, 1) := by decide +kernel
theorem dX9_init_246 : decode cX9_init 246 = .ok (.newarray .int, 2) := by decide +kernel
theorem dX9_init_248 : decode cX9_init 248 = .ok (.putfield 100, 3) := by decide +kernel
theorem dX9_init_251 : decode cX9_init 251 = .ok (.aload_n 0, 1) := by decide +kernel
theorem dX9_init_252 : decode cX9_init 252 = .ok (.iconst 3, 1) := by decide +kernel
theorem dX9_init_253 : decode cX9_init 253 = .ok (.newarray .int, 2) := by decide +kernel
theorem dX9_init_255 : decode cX9_init 255 = .ok (.putfield 103, 3) := by decide +kernel
theorem dX9_init_258 : decode cX9_init 258 = .ok (.aload_n 0, 1) := by decide +kernel
theorem dX9_init_259 : decode cX9_init 259 = .ok (.bipush 16, 2) := by decide +kernel
theorem dX9_init_261 : decode cX9_init 261 = .ok (.newarray .boolean, 2) := by decide +kernel
theorem dX9_init_263 : decode cX9_init 263 = .ok (.putfield 106, 3) := by decide +kernel
theorem dX9_init_266 : decode cX9_init 266 = .ok (.iconst 0, 1) := by decide +kernel
theorem dX9_init_267 : decode cX9_init 267 = .ok (.istore_n 1, 1) := by decide +kernel
theorem dX9_init_268 : decode cX9_init 268 = .ok (.iload_n 1, 1) := by decide +kernel
theorem dX9_init_269 : decode cX9_init 269 = .ok (.bipush 16, 2) := by decide +kernel
theorem dX9_init_271 : decode cX9_init 271 = .ok (.if_icmp .ge 18, 3) := by decide +kernel
theorem dX9_init_274 : decode cX9_init 274 = .ok (.aload_n 0, 1) := by decide +kernel
theorem dX9_init_275 : decode cX9_init 275 = .ok (.getfield 7, 3) := by decide +kernel
theorem dX9_init_278 : decode cX9_init 278 = .ok (.iload_n 1, 1) := by decide +kernel
theorem dX9_init_279 : decode cX9_init 279 = .ok (.sipush 1000, 3) := by decide +kernel
theorem dX9_init_282 : decode cX9_init 282 = .ok (.iastore, 1) := by decide +kernel
theorem dX9_init_283 : decode cX9_init 283 = .ok (.iinc 1 1, 3) := by decide +kernel
theorem dX9_init_286 : decode cX9_init 286 = .ok (.goto (-18), 3) := by decide +kernel
theorem dX9_init_289 : decode cX9_init 289 = .ok (.return_, 1) := by decide +kernel
theorem dX9_isIn_0 : decode cX9_isIn 0 = .ok (.iload_n 0, 1) := by decide +kernel
theorem dX9_isIn_1 : decode cX9_isIn 1 = .ok (.iload_n 1, 1) := by decide +kernel
theorem dX9_isIn_2 : decode cX9_isIn 2 = .ok (.if_icmp .lt 12, 3) := by decide +kernel
theorem dX9_isIn_5 : decode cX9_isIn 5 = .ok (.iload_n 0, 1) := by decide +kernel
theorem dX9_isIn_6 : decode cX9_isIn 6 = .ok (.iload_n 2, 1) := by decide +kernel
theorem dX9_isIn_7 : decode cX9_isIn 7 = .ok (.if_icmp .gt 7, 3) := by decide +kernel
theorem dX9_isIn_10 : decode cX9_isIn 10 = .ok (.iconst 1, 1) := by decide +kernel
theorem dX9_isIn_11 : decode cX9_isIn 11 = .ok (.goto 4, 3) := by decide +kernel
theorem dX9_isIn_14 : decode cX9_isIn 14 = .ok (.iconst 0, 1) := by decide +kernel
theorem dX9_isIn_15 : decode cX9_isIn 15 = .ok (.ireturn, 1) := by decide +kernel
theorem dX9_one_0 : decode cX9_one 0 = .ok (.iload_n 0, 1) := by decide +kernel
theorem dX9_one_1 : decode cX9_one 1 = .ok (.ifCond .eq 7, 3) := by decide +kernel
theorem dX9_one_4 : decode cX9_one 4 = .ok (.iconst 1, 1) := by decide +kernel
theorem dX9_one_5 : decode cX9_one 5 = .ok (.goto 4, 3) := by decide +kernel
theorem dX9_one_8 : decode cX9_one 8 = .ok (.iconst 0, 1) := by decide +kernel
theorem dX9_one_9 : decode cX9_one 9 = .ok (.ireturn, 1) := by decide +kernel
theorem dX9_isBay_0 : decode cX9_isBay 0 = .ok (.iload_n 0, 1) := by decide +kernel
theorem dX9_isBay_1 : decode cX9_isBay 1 = .ok (.iconst 0, 1) := by decide +kernel
theorem dX9_isBay_2 : decode cX9_isBay 2 = .ok (.bipush 15, 2) := by decide +kernel
theorem dX9_isBay_4 : decode cX9_isBay 4 = .ok (.invokestatic 109, 3) := by decide +kernel
theorem dX9_isBay_7 : decode cX9_isBay 7 = .ok (.ireturn, 1) := by decide +kernel
theorem dX9_isStack_0 : decode cX9_isStack 0 = .ok (.iload_n 1, 1) := by decide +kernel
theorem dX9_isStack_1 : decode cX9_isStack 1 = .ok (.iconst 0, 1) := by decide +kernel
theorem dX9_isStack_2 : decode cX9_isStack 2 = .ok (.aload_n 0, 1) := by decide +kernel
theorem dX9_isStack_3 : decode cX9_isStack 3 = .ok (.getfield 113, 3) := by decide +kernel
theorem dX9_isStack_6 : decode cX9_isStack 6 = .ok (.iconst 1, 1) := by decide +kernel
theorem dX9_isStack_7 : decode cX9_isStack 7 = .ok (.isub, 1) := by decide +kernel
theorem dX9_isStack_8 : decode cX9_isStack 8 = .ok (.invokestatic 109, 3) := by decide +kernel
theorem dX9_isStack_11 : decode cX9_isStack 11 = .ok (.ireturn, 1) := by decide +kernel
theorem dX9_feed_0 : decode cX9_feed 0 = .ok (.aload_n 0, 1) := by decide +kernel
theorem dX9_feed_1 : decode cX9_feed 1 = .ok (.getfield 116, 3) := by decide +kernel
theorem dX9_feed_4 : decode cX9_feed 4 = .ok (.bipush 20, 2) := by decide +kernel
theorem dX9_feed_6 : decode cX9_feed 6 = .ok (.iadd, 1) := by decide +kernel
theorem dX9_feed_7 : decode cX9_feed 7 = .ok (.sipush 500, 3) := by decide +kernel
theorem dX9_feed_10 : decode cX9_feed 10 = .ok (.if_icmp .le 5, 3) := by decide +kernel
theorem dX9_feed_13 : decode cX9_feed 13 = .ok (.iconst (-1), 1) := by decide +kernel
theorem dX9_feed_14 : decode cX9_feed 14 = .ok (.ireturn, 1) := by decide +kernel
theorem dX9_feed_15 : decode cX9_feed 15 = .ok (.aload_n 0, 1) := by decide +kernel
theorem dX9_feed_16 : decode cX9_feed 16 = .ok (.iload_n 1, 1) := by decide +kernel
theorem dX9_feed_17 : decode cX9_feed 17 = .ok (.invokevirtual 119, 3) := by decide +kernel
theorem dX9_feed_20 : decode cX9_feed 20 = .ok (.aload_n 0, 1) := by decide +kernel
theorem dX9_feed_21 : decode cX9_feed 21 = .ok (.iload_n 2, 1) := by decide +kernel
theorem dX9_feed_22 : decode cX9_feed 22 = .ok (.invokevirtual 119, 3) := by decide +kernel
theorem dX9_feed_25 : decode cX9_feed 25 = .ok (.aload_n 0, 1) := by decide +kernel
theorem dX9_feed_26 : decode cX9_feed 26 = .ok (.iload_n 3, 1) := by decide +kernel
theorem dX9_feed_27 : decode cX9_feed 27 = .ok (.invokevirtual 119, 3) := by decide +kernel
theorem dX9_feed_30 : decode cX9_feed 30 = .ok (.aload_n 0, 1) := by decide +kernel
theorem dX9_feed_31 : decode cX9_feed 31 = .ok (.iload 4, 2) := by decide +kernel
theorem dX9_feed_33 : decode cX9_feed 33 = .ok (.invokevirtual 119, 3) := by decide +kernel
theorem dX9_feed_36 : decode cX9_feed 36 = .ok (.aload_n 0, 1) := by decide +kernel
theorem dX9_feed_37 : decode cX9_feed 37 = .ok (.iload 5, 2) := by decide +kernel
theorem dX9_feed_39 : decode cX9_feed 39 = .ok (.invokevirtual 119, 3) := by decide +kernel
theorem dX9_feed_42 : decode cX9_feed 42 = .ok (.aload_n 0, 1) := by decide +kernel
theorem dX9_feed_43 : decode cX9_feed 43 = .ok (.getfield 116, 3) := by decide +kernel
theorem dX9_feed_46 : decode cX9_feed 46 = .ok (.ireturn, 1) := by decide +kernel
theorem dX9_four_0 : decode cX9_four 0 = .ok (.bipush 24, 2) := by decide +kernel
theorem dX9_four_2 : decode cX9_four 2 = .ok (.istore_n 2, 1) := by decide +kernel
theorem dX9_four_3 : decode cX9_four 3 = .ok (.iload_n 2, 1) := by decide +kernel
theorem dX9_four_4 : decode cX9_four 4 = .ok (.ifCond .lt 32, 3) := by decide +kernel
theorem dX9_four_7 : decode cX9_four 7 = .ok (.aload_n 0, 1) := by decide +kernel
theorem dX9_four_8 : decode cX9_four 8 = .ok (.getfield 56, 3) := by decide +kernel
theorem dX9_four_11 : decode cX9_four 11 = .ok (.aload_n 0, 1) := by decide +kernel
theorem dX9_four_12 : decode cX9_four 12 = .ok (.getfield 116, 3) := by decide +kernel
theorem dX9_four_15 : decode cX9_four 15 = .ok (.iload_n 1, 1) := by decide +kernel
theorem dX9_four_16 : decode cX9_four 16 = .ok (.iload_n 2, 1) := by decide +kernel
theorem dX9_four_17 : decode cX9_four 17 = .ok (.ishr, 1) := by decide +kernel
theorem dX9_four_18 : decode cX9_four 18 = .ok (.i2b, 1) := by decide +kernel
theorem dX9_four_19 : decode cX9_four 19 = .ok (.bastore, 1) := by decide +kernel
theorem dX9_four_20 : decode cX9_four 20 = .ok (.aload_n 0, 1) := by decide +kernel
theorem dX9_four_21 : decode cX9_four 21 = .ok (.dup, 1) := by decide +kernel
theorem dX9_four_22 : decode cX9_four 22 = .ok (.getfield 116, 3) := by decide +kernel
theorem dX9_four_25 : decode cX9_four 25 = .ok (.iconst 1, 1) := by decide +kernel
theorem dX9_four_26 : decode cX9_four 26 = .ok (.iadd, 1) := by decide +kernel
theorem dX9_four_27 : decode cX9_four 27 = .ok (.putfield 116, 3) := by decide +kernel
theorem dX9_four_30 : decode cX9_four 30 = .ok (.iinc 2 (-8), 3) := by decide +kernel
theorem dX9_four_33 : decode cX9_four 33 = .ok (.goto (-30), 3) := by decide +kernel
theorem dX9_four_36 : decode cX9_four 36 = .ok (.return_, 1) := by decide +kernel
theorem dX9_blanks_0 : decode cX9_blanks 0 = .ok (.aload_n 0, 1) := by decide +kernel
theorem dX9_blanks_1 : decode cX9_blanks 1 = .ok (.getfield 123, 3) := by decide +kernel
theorem dX9_blanks_4 : decode cX9_blanks 4 = .ok (.aload_n 0, 1) := by decide +kernel
theorem dX9_blanks_5 : decode cX9_blanks 5 = .ok (.getfield 126, 3) := by decide +kernel
theorem dX9_blanks_8 : decode cX9_blanks 8 = .ok (.if_icmp .ge 44, 3) := by decide +kernel
theorem dX9_blanks_11 : decode cX9_blanks 11 = .ok (.aload_n 0, 1) := by decide +kernel
theorem dX9_blanks_12 : decode cX9_blanks 12 = .ok (.getfield 60, 3) := by decide +kernel
theorem dX9_blanks_15 : decode cX9_blanks 15 = .ok (.aload_n 0, 1) := by decide +kernel
theorem dX9_blanks_16 : decode cX9_blanks 16 = .ok (.getfield 123, 3) := by decide +kernel
theorem dX9_blanks_19 : decode cX9_blanks 19 = .ok (.baload, 1) := by decide +kernel
theorem dX9_blanks_20 : decode cX9_blanks 20 = .ok (.bipush 32, 2) := by decide +kernel
theorem dX9_blanks_22 : decode cX9_blanks 22 = .ok (.if_icmp .eq 17, 3) := by decide +kernel
theorem dX9_blanks_25 : decode cX9_blanks 25 = .ok (.aload_n 0, 1) := by decide +kernel
theorem dX9_blanks_26 : decode cX9_blanks 26 = .ok (.getfield 60, 3) := by decide +kernel
theorem dX9_blanks_29 : decode cX9_blanks 29 = .ok (.aload_n 0, 1) := by decide +kernel
theorem dX9_blanks_30 : decode cX9_blanks 30 = .ok (.getfield 123, 3) := by decide +kernel
theorem dX9_blanks_33 : decode cX9_blanks 33 = .ok (.baload, 1) := by decide +kernel
theorem dX9_blanks_34 : decode cX9_blanks 34 = .ok (.bipush 10, 2) := by decide +kernel
theorem dX9_blanks_36 : decode cX9_blanks 36 = .ok (.if_icmp .ne 16, 3) := by decide +kernel
theorem dX9_blanks_39 : decode cX9_blanks 39 = .ok (.aload_n 0, 1) := by decide +kernel
theorem dX9_blanks_40 : decode cX9_blanks 40 = .ok (.dup, 1) := by decide +kernel
theorem dX9_blanks_41 : decode cX9_blanks 41 = .ok (.getfield 123, 3) := by decide +kernel
theorem dX9_blanks_44 : decode cX9_blanks 44 = .ok (.iconst 1, 1) := by decide +kernel
theorem dX9_blanks_45 : decode cX9_blanks 45 = .ok (.iadd, 1) := by decide +kernel
theorem dX9_blanks_46 : decode cX9_blanks 46 = .ok (.putfield 123, 3) := by decide +kernel
theorem dX9_blanks_49 : decode cX9_blanks 49 = .ok (.goto (-49), 3) := by decide +kernel
theorem dX9_blanks_52 : decode cX9_blanks 52 = .ok (.return_, 1) := by decide +kernel
theorem dX9_word_0 : decode cX9_word 0 = .ok (.aload_n 0, 1) := by decide +kernel
theorem dX9_word_1 : decode cX9_word 1 = .ok (.invokevirtual 129, 3) := by decide +kernel
theorem dX9_word_4 : decode cX9_word 4 = .ok (.aload_n 0, 1) := by decide +kernel
theorem dX9_word_5 : decode cX9_word 5 = .ok (.aload_n 0, 1) := by decide +kernel
theorem dX9_word_6 : decode cX9_word 6 = .ok (.getfield 123, 3) := by decide +kernel
theorem dX9_word_9 : decode cX9_word 9 = .ok (.putfield 132, 3) := by decide +kernel
theorem dX9_word_12 : decode cX9_word 12 = .ok (.lconst 0, 1) := by decide +kernel
theorem dX9_word_13 : decode cX9_word 13 = .ok (.lstore_n 1, 1) := by decide +kernel
theorem dX9_word_14 : decode cX9_word 14 = .ok (.aload_n 0, 1) := by decide +kernel
theorem dX9_word_15 : decode cX9_word 15 = .ok (.getfield 132, 3) := by decide +kernel
theorem dX9_word_18 : decode cX9_word 18 = .ok (.aload_n 0, 1) := by decide +kernel
theorem dX9_word_19 : decode cX9_word 19 = .ok (.getfield 126, 3) := by decide +kernel
theorem dX9_word_22 : decode cX9_word 22 = .ok (.if_icmp .ge 78, 3) := by decide +kernel
theorem dX9_word_25 : decode cX9_word 25 = .ok (.aload_n 0, 1) := by decide +kernel
theorem dX9_word_26 : decode cX9_word 26 = .ok (.getfield 60, 3) := by decide +kernel
theorem dX9_word_29 : decode cX9_word 29 = .ok (.aload_n 0, 1) := by decide +kernel
theorem dX9_word_30 : decode cX9_word 30 = .ok (.getfield 132, 3) := by decide +kernel
theorem dX9_word_33 : decode cX9_word 33 = .ok (.baload, 1) := by decide +kernel
theorem dX9_word_34 : decode cX9_word 34 = .ok (.bipush 97, 2) := by decide +kernel
theorem dX9_word_36 : decode cX9_word 36 = .ok (.if_icmp .lt 64, 3) := by decide +kernel
theorem dX9_word_39 : decode cX9_word 39 = .ok (.aload_n 0, 1) := by decide +kernel
theorem dX9_word_40 : decode cX9_word 40 = .ok (.getfield 60, 3) := by decide +kernel
theorem dX9_word_43 : decode cX9_word 43 = .ok (.aload_n 0, 1) := by decide +kernel
theorem dX9_word_44 : decode cX9_word 44 = .ok (.getfield 132, 3) := by decide +kernel
theorem dX9_word_47 : decode cX9_word 47 = .ok (.baload, 1) := by decide +kernel
theorem dX9_word_48 : decode cX9_word 48 = .ok (.bipush 122, 2) := by decide +kernel
theorem dX9_word_50 : decode cX9_word 50 = .ok (.if_icmp .gt 50, 3) := by decide +kernel
theorem dX9_word_53 : decode cX9_word 53 = .ok (.aload_n 0, 1) := by decide +kernel
theorem dX9_word_54 : decode cX9_word 54 = .ok (.getfield 132, 3) := by decide +kernel
theorem dX9_word_57 : decode cX9_word 57 = .ok (.aload_n 0, 1) := by decide +kernel
theorem dX9_word_58 : decode cX9_word 58 = .ok (.getfield 123, 3) := by decide +kernel
theorem dX9_word_61 : decode cX9_word 61 = .ok (.isub, 1) := by decide +kernel
theorem dX9_word_62 : decode cX9_word 62 = .ok (.bipush 7, 2) := by decide +kernel
theorem dX9_word_64 : decode cX9_word 64 = .ok (.if_icmp .ge 21, 3) := by decide +kernel
theorem dX9_word_67 : decode cX9_word 67 = .ok (.lload_n 1, 1) := by decide +kernel
theorem dX9_word_68 : decode cX9_word 68 = .ok (.bipush 8, 2) := by decide +kernel
theorem dX9_word_70 : decode cX9_word 70 = .ok (.lshl, 1) := by decide +kernel
theorem dX9_word_71 : decode cX9_word 71 = .ok (.aload_n 0, 1) := by decide +kernel
theorem dX9_word_72 : decode cX9_word 72 = .ok (.getfield 60, 3) := by decide +kernel
theorem dX9_word_75 : decode cX9_word 75 = .ok (.aload_n 0, 1) := by decide +kernel
theorem dX9_word_76 : decode cX9_word 76 = .ok (.getfield 132, 3) := by decide +kernel
theorem dX9_word_79 : decode cX9_word 79 = .ok (.baload, 1) := by decide +kernel
theorem dX9_word_80 : decode cX9_word 80 = .ok (.i2l, 1) := by decide +kernel
theorem dX9_word_81 : decode cX9_word 81 = .ok (.lor, 1) := by decide +kernel
theorem dX9_word_82 : decode cX9_word 82 = .ok (.goto 4, 3) := by decide +kernel
theorem dX9_word_85 : decode cX9_word 85 = .ok (.lconst 0, 1) := by decide +kernel
theorem dX9_word_86 : decode cX9_word 86 = .ok (.lstore_n 1, 1) := by decide +kernel
theorem dX9_word_87 : decode cX9_word 87 = .ok (.aload_n 0, 1) := by decide +kernel
theorem dX9_word_88 : decode cX9_word 88 = .ok (.dup, 1) := by decide +kernel
theorem dX9_word_89 : decode cX9_word 89 = .ok (.getfield 132, 3) := by decide +kernel
theorem dX9_word_92 : decode cX9_word 92 = .ok (.iconst 1, 1) := by decide +kernel
theorem dX9_word_93 : decode cX9_word 93 = .ok (.iadd, 1) := by decide +kernel
theorem dX9_word_94 : decode cX9_word 94 = .ok (.putfield 132, 3) := by decide +kernel
theorem dX9_word_97 : decode cX9_word 97 = .ok (.goto (-83), 3) := by decide +kernel
theorem dX9_word_100 : decode cX9_word 100 = .ok (.aload_n 0, 1) := by decide +kernel
theorem dX9_word_101 : decode cX9_word 101 = .ok (.getfield 132, 3) := by decide +kernel
theorem dX9_word_104 : decode cX9_word 104 = .ok (.aload_n 0, 1) := by decide +kernel
theorem dX9_word_105 : decode cX9_word 105 = .ok (.getfield 123, 3) := by decide +kernel
theorem dX9_word_108 : decode cX9_word 108 = .ok (.isub, 1) := by decide +kernel
theorem dX9_word_109 : decode cX9_word 109 = .ok (.bipush 7, 2) := by decide +kernel
theorem dX9_word_111 : decode cX9_word 111 = .ok (.if_icmp .le 7, 3) := by decide +kernel
theorem dX9_word_114 : decode cX9_word 114 = .ok (.lconst 0, 1) := by decide +kernel
theorem dX9_word_115 : decode cX9_word 115 = .ok (.goto 4, 3) := by decide +kernel
theorem dX9_word_118 : decode cX9_word 118 = .ok (.lload_n 1, 1) := by decide +kernel
theorem dX9_word_119 : decode cX9_word 119 = .ok (.lreturn, 1) := by decide +kernel
theorem dX9_takes_0 : decode cX9_takes 0 = .ok (.aload_n 0, 1) := by decide +kernel
theorem dX9_takes_1 : decode cX9_takes 1 = .ok (.invokevirtual 135, 3) := by decide +kernel
theorem dX9_takes_4 : decode cX9_takes 4 = .ok (.lload_n 1, 1) := by decide +kernel
theorem dX9_takes_5 : decode cX9_takes 5 = .ok (.lcmp, 1) := by decide +kernel
theorem dX9_takes_6 : decode cX9_takes 6 = .ok (.ifCond .eq 5, 3) := by decide +kernel
theorem dX9_takes_9 : decode cX9_takes 9 = .ok (.iconst 0, 1) := by decide +kernel
theorem dX9_takes_10 : decode cX9_takes 10 = .ok (.ireturn, 1) := by decide +kernel
theorem dX9_takes_11 : decode cX9_takes 11 = .ok (.aload_n 0, 1) := by decide +kernel
theorem dX9_takes_12 : decode cX9_takes 12 = .ok (.aload_n 0, 1) := by decide +kernel
theorem dX9_takes_13 : decode cX9_takes 13 = .ok (.getfield 132, 3) := by decide +kernel
theorem dX9_takes_16 : decode cX9_takes 16 = .ok (.putfield 123, 3) := by decide +kernel
theorem dX9_takes_19 : decode cX9_takes 19 = .ok (.iconst 1, 1) := by decide +kernel
theorem dX9_takes_20 : decode cX9_takes 20 = .ok (.ireturn, 1) := by decide +kernel
theorem dX9_takesNumber_0 : decode cX9_takesNumber 0 = .ok (.aload_n 0, 1) := by decide +kernel
theorem dX9_takesNumber_1 : decode cX9_takesNumber 1 = .ok (.invokevirtual 129, 3) := by decide +kernel
theorem dX9_takesNumber_4 : decode cX9_takesNumber 4 = .ok (.aload_n 0, 1) := by decide +kernel
theorem dX9_takesNumber_5 : decode cX9_takesNumber 5 = .ok (.getfield 123, 3) := by decide +kernel
theorem dX9_takesNumber_8 : decode cX9_takesNumber 8 = .ok (.istore_n 1, 1) := by decide +kernel
theorem dX9_takesNumber_9 : decode cX9_takesNumber 9 = .ok (.aload_n 0, 1) := by decide +kernel
theorem dX9_takesNumber_10 : decode cX9_takesNumber 10 = .ok (.iconst 0, 1) := by decide +kernel
theorem dX9_takesNumber_11 : decode cX9_takesNumber 11 = .ok (.putfield 139, 3) := by decide +kernel
theorem dX9_takesNumber_14 : decode cX9_takesNumber 14 = .ok (.iload_n 1, 1) := by decide +kernel
theorem dX9_takesNumber_15 : decode cX9_takesNumber 15 = .ok (.aload_n 0, 1) := by decide +kernel
theorem dX9_takesNumber_16 : decode cX9_takesNumber 16 = .ok (.getfield 126, 3) := by decide +kernel
theorem dX9_takesNumber_19 : decode cX9_takesNumber 19 = .ok (.if_icmp .ge 62, 3) := by decide +kernel
theorem dX9_takesNumber_22 : decode cX9_takesNumber 22 = .ok (.aload_n 0, 1) := by decide +kernel
theorem dX9_takesNumber_23 : decode cX9_takesNumber 23 = .ok (.getfield 60, 3) := by decide +kernel
theorem dX9_takesNumber_26 : decode cX9_takesNumber 26 = .ok (.iload_n 1, 1) := by decide +kernel
theorem dX9_takesNumber_27 : decode cX9_takesNumber 27 = .ok (.baload, 1) := by decide +kernel
theorem dX9_takesNumber_28 : decode cX9_takesNumber 28 = .ok (.bipush 48, 2) := by decide +kernel
theorem dX9_takesNumber_30 : decode cX9_takesNumber 30 = .ok (.if_icmp .lt 51, 3) := by decide +kernel
theorem dX9_takesNumber_33 : decode cX9_takesNumber 33 = .ok (.aload_n 0, 1) := by decide +kernel
theorem dX9_takesNumber_34 : decode cX9_takesNumber 34 = .ok (.getfield 60, 3) := by decide +kernel
theorem dX9_takesNumber_37 : decode cX9_takesNumber 37 = .ok (.iload_n 1, 1) := by decide +kernel
theorem dX9_takesNumber_38 : decode cX9_takesNumber 38 = .ok (.baload, 1) := by decide +kernel
theorem dX9_takesNumber_39 : decode cX9_takesNumber 39 = .ok (.bipush 57, 2) := by decide +kernel
theorem dX9_takesNumber_41 : decode cX9_takesNumber 41 = .ok (.if_icmp .gt 40, 3) := by decide +kernel
theorem dX9_takesNumber_44 : decode cX9_takesNumber 44 = .ok (.iload_n 1, 1) := by decide +kernel
theorem dX9_takesNumber_45 : decode cX9_takesNumber 45 = .ok (.aload_n 0, 1) := by decide +kernel
theorem dX9_takesNumber_46 : decode cX9_takesNumber 46 = .ok (.getfield 123, 3) := by decide +kernel
theorem dX9_takesNumber_49 : decode cX9_takesNumber 49 = .ok (.isub, 1) := by decide +kernel
theorem dX9_takesNumber_50 : decode cX9_takesNumber 50 = .ok (.iconst 4, 1) := by decide +kernel
theorem dX9_takesNumber_51 : decode cX9_takesNumber 51 = .ok (.if_icmp .ge 24, 3) := by decide +kernel
theorem dX9_takesNumber_54 : decode cX9_takesNumber 54 = .ok (.aload_n 0, 1) := by decide +kernel
theorem dX9_takesNumber_55 : decode cX9_takesNumber 55 = .ok (.bipush 10, 2) := by decide +kernel
theorem dX9_takesNumber_57 : decode cX9_takesNumber 57 = .ok (.aload_n 0, 1) := by decide +kernel
theorem dX9_takesNumber_58 : decode cX9_takesNumber 58 = .ok (.getfield 139, 3) := by decide +kernel
theorem dX9_takesNumber_61 : decode cX9_takesNumber 61 = .ok (.imul, 1) := by decide +kernel
theorem dX9_takesNumber_62 : decode cX9_takesNumber 62 = .ok (.aload_n 0, 1) := by decide +kernel
theorem dX9_takesNumber_63 : decode cX9_takesNumber 63 = .ok (.getfield 60, 3) := by decide +kernel
theorem dX9_takesNumber_66 : decode cX9_takesNumber 66 = .ok (.iload_n 1, 1) := by decide +kernel
theorem dX9_takesNumber_67 : decode cX9_takesNumber 67 = .ok (.baload, 1) := by decide +kernel
theorem dX9_takesNumber_68 : decode cX9_takesNumber 68 = .ok (.iadd, 1) := by decide +kernel
theorem dX9_takesNumber_69 : decode cX9_takesNumber 69 = .ok (.bipush 48, 2) := by decide +kernel
theorem dX9_takesNumber_71 : decode cX9_takesNumber 71 = .ok (.isub, 1) := by decide +kernel
theorem dX9_takesNumber_72 : decode cX9_takesNumber 72 = .ok (.putfield 139, 3) := by decide +kernel
theorem dX9_takesNumber_75 : decode cX9_takesNumber 75 = .ok (.iinc 1 1, 3) := by decide +kernel
theorem dX9_takesNumber_78 : decode cX9_takesNumber 78 = .ok (.goto (-64), 3) := by decide +kernel
theorem dX9_takesNumber_81 : decode cX9_takesNumber 81 = .ok (.iload_n 1, 1) := by decide +kernel
theorem dX9_takesNumber_82 : decode cX9_takesNumber 82 = .ok (.aload_n 0, 1) := by decide +kernel
theorem dX9_takesNumber_83 : decode cX9_takesNumber 83 = .ok (.getfield 123, 3) := by decide +kernel
theorem dX9_takesNumber_86 : decode cX9_takesNumber 86 = .ok (.if_icmp .eq 13, 3) := by decide +kernel
theorem dX9_takesNumber_89 : decode cX9_takesNumber 89 = .ok (.iload_n 1, 1) := by decide +kernel
theorem dX9_takesNumber_90 : decode cX9_takesNumber 90 = .ok (.aload_n 0, 1) := by decide +kernel
theorem dX9_takesNumber_91 : decode cX9_takesNumber 91 = .ok (.getfield 123, 3) := by decide +kernel
theorem dX9_takesNumber_94 : decode cX9_takesNumber 94 = .ok (.isub, 1) := by decide +kernel
theorem dX9_takesNumber_95 : decode cX9_takesNumber 95 = .ok (.iconst 4, 1) := by decide +kernel
theorem dX9_takesNumber_96 : decode cX9_takesNumber 96 = .ok (.if_icmp .le 5, 3) := by decide +kernel
theorem dX9_takesNumber_99 : decode cX9_takesNumber 99 = .ok (.iconst 0, 1) := by decide +kernel
theorem dX9_takesNumber_100 : decode cX9_takesNumber 100 = .ok (.ireturn, 1) := by decide +kernel
theorem dX9_takesNumber_101 : decode cX9_takesNumber 101 = .ok (.aload_n 0, 1) := by decide +kernel
theorem dX9_takesNumber_102 : decode cX9_takesNumber 102 = .ok (.iload_n 1, 1) := by decide +kernel
theorem dX9_takesNumber_103 : decode cX9_takesNumber 103 = .ok (.putfield 123, 3) := by decide +kernel
theorem dX9_takesNumber_106 : decode cX9_takesNumber 106 = .ok (.iconst 1, 1) := by decide +kernel
theorem dX9_takesNumber_107 : decode cX9_takesNumber 107 = .ok (.ireturn, 1) := by decide +kernel
theorem dX9_test_0 : decode cX9_test 0 = .ok (.aload_n 0, 1) := by decide +kernel
theorem dX9_test_1 : decode cX9_test 1 = .ok (.invokevirtual 135, 3) := by decide +kernel
theorem dX9_test_4 : decode cX9_test 4 = .ok (.lstore_n 2, 1) := by decide +kernel
theorem dX9_test_5 : decode cX9_test 5 = .ok (.aload_n 0, 1) := by decide +kernel
theorem dX9_test_6 : decode cX9_test 6 = .ok (.getfield 91, 3) := by decide +kernel
theorem dX9_test_9 : decode cX9_test 9 = .ok (.iload_n 1, 1) := by decide +kernel
theorem dX9_test_10 : decode cX9_test 10 = .ok (.lload_n 2, 1) := by decide +kernel
theorem dX9_test_11 : decode cX9_test 11 = .ok (.ldc2_w 142, 3) := by decide +kernel
theorem dX9_test_14 : decode cX9_test 14 = .ok (.lcmp, 1) := by decide +kernel
theorem dX9_test_15 : decode cX9_test 15 = .ok (.ifCond .ne 7, 3) := by decide +kernel
theorem dX9_test_18 : decode cX9_test 18 = .ok (.iconst 0, 1) := by decide +kernel
theorem dX9_test_19 : decode cX9_test 19 = .ok (.goto 28, 3) := by decide +kernel
theorem dX9_test_22 : decode cX9_test 22 = .ok (.lload_n 2, 1) := by decide +kernel
theorem dX9_test_23 : decode cX9_test 23 = .ok (.ldc2_w 144, 3) := by decide +kernel
theorem dX9_test_26 : decode cX9_test 26 = .ok (.lcmp, 1) := by decide +kernel
theorem dX9_test_27 : decode cX9_test 27 = .ok (.ifCond .ne 7, 3) := by decide +kernel
theorem dX9_test_30 : decode cX9_test 30 = .ok (.iconst 1, 1) := by decide +kernel
theorem dX9_test_31 : decode cX9_test 31 = .ok (.goto 16, 3) := by decide +kernel
theorem dX9_test_34 : decode cX9_test 34 = .ok (.lload_n 2, 1) := by decide +kernel
theorem dX9_test_35 : decode cX9_test 35 = .ok (.ldc2_w 146, 3) := by decide +kernel
theorem dX9_test_38 : decode cX9_test 38 = .ok (.lcmp, 1) := by decide +kernel
theorem dX9_test_39 : decode cX9_test 39 = .ok (.ifCond .ne 7, 3) := by decide +kernel
theorem dX9_test_42 : decode cX9_test 42 = .ok (.iconst 2, 1) := by decide +kernel
theorem dX9_test_43 : decode cX9_test 43 = .ok (.goto 4, 3) := by decide +kernel
theorem dX9_test_46 : decode cX9_test 46 = .ok (.iconst (-1), 1) := by decide +kernel
theorem dX9_test_47 : decode cX9_test 47 = .ok (.iastore, 1) := by decide +kernel
theorem dX9_test_48 : decode cX9_test 48 = .ok (.aload_n 0, 1) := by decide +kernel
theorem dX9_test_49 : decode cX9_test 49 = .ok (.getfield 91, 3) := by decide +kernel
theorem dX9_test_52 : decode cX9_test 52 = .ok (.iload_n 1, 1) := by decide +kernel
theorem dX9_test_53 : decode cX9_test 53 = .ok (.iaload, 1) := by decide +kernel
theorem dX9_test_54 : decode cX9_test 54 = .ok (.iconst (-1), 1) := by decide +kernel
theorem dX9_test_55 : decode cX9_test 55 = .ok (.if_icmp .ne 5, 3) := by decide +kernel
theorem dX9_test_58 : decode cX9_test 58 = .ok (.iconst 0, 1) := by decide +kernel
theorem dX9_test_59 : decode cX9_test 59 = .ok (.ireturn, 1) := by decide +kernel
theorem dX9_test_60 : decode cX9_test 60 = .ok (.aload_n 0, 1) := by decide +kernel
theorem dX9_test_61 : decode cX9_test 61 = .ok (.aload_n 0, 1) := by decide +kernel
theorem dX9_test_62 : decode cX9_test 62 = .ok (.getfield 132, 3) := by decide +kernel
theorem dX9_test_65 : decode cX9_test 65 = .ok (.putfield 123, 3) := by decide +kernel
theorem dX9_test_68 : decode cX9_test 68 = .ok (.aload_n 0, 1) := by decide +kernel
theorem dX9_test_69 : decode cX9_test 69 = .ok (.invokevirtual 129, 3) := by decide +kernel
theorem dX9_test_72 : decode cX9_test 72 = .ok (.aload_n 0, 1) := by decide +kernel
theorem dX9_test_73 : decode cX9_test 73 = .ok (.getfield 123, 3) := by decide +kernel
theorem dX9_test_76 : decode cX9_test 76 = .ok (.aload_n 0, 1) := by decide +kernel
theorem dX9_test_77 : decode cX9_test 77 = .ok (.getfield 126, 3) := by decide +kernel
theorem dX9_test_80 : decode cX9_test 80 = .ok (.if_icmp .eq 45, 3) := by decide +kernel
theorem dX9_test_83 : decode cX9_test 83 = .ok (.aload_n 0, 1) := by decide +kernel
theorem dX9_test_84 : decode cX9_test 84 = .ok (.getfield 60, 3) := by decide +kernel
theorem dX9_test_87 : decode cX9_test 87 = .ok (.aload_n 0, 1) := by decide +kernel
theorem dX9_test_88 : decode cX9_test 88 = .ok (.getfield 123, 3) := by decide +kernel
theorem dX9_test_91 : decode cX9_test 91 = .ok (.baload, 1) := by decide +kernel
theorem dX9_test_92 : decode cX9_test 92 = .ok (.bipush 60, 2) := by decide +kernel
theorem dX9_test_94 : decode cX9_test 94 = .ok (.if_icmp .eq 33, 3) := by decide +kernel
theorem dX9_test_97 : decode cX9_test 97 = .ok (.aload_n 0, 1) := by decide +kernel
theorem dX9_test_98 : decode cX9_test 98 = .ok (.getfield 60, 3) := by decide +kernel
theorem dX9_test_101 : decode cX9_test 101 = .ok (.aload_n 0, 1) := by decide +kernel
theorem dX9_test_102 : decode cX9_test 102 = .ok (.getfield 123, 3) := by decide +kernel
theorem dX9_test_105 : decode cX9_test 105 = .ok (.baload, 1) := by decide +kernel
theorem dX9_test_106 : decode cX9_test 106 = .ok (.bipush 62, 2) := by decide +kernel
theorem dX9_test_108 : decode cX9_test 108 = .ok (.if_icmp .eq 19, 3) := by decide +kernel
theorem dX9_test_111 : decode cX9_test 111 = .ok (.aload_n 0, 1) := by decide +kernel
theorem dX9_test_112 : decode cX9_test 112 = .ok (.getfield 60, 3) := by decide +kernel
theorem dX9_test_115 : decode cX9_test 115 = .ok (.aload_n 0, 1) := by decide +kernel
theorem dX9_test_116 : decode cX9_test 116 = .ok (.getfield 123, 3) := by decide +kernel
theorem dX9_test_119 : decode cX9_test 119 = .ok (.baload, 1) := by decide +kernel
theorem dX9_test_120 : decode cX9_test 120 = .ok (.bipush 61, 2) := by decide +kernel
theorem dX9_test_122 : decode cX9_test 122 = .ok (.if_icmp .eq 5, 3) := by decide +kernel
theorem dX9_test_125 : decode cX9_test 125 = .ok (.iconst 0, 1) := by decide +kernel
theorem dX9_test_126 : decode cX9_test 126 = .ok (.ireturn, 1) := by decide +kernel
theorem dX9_test_127 : decode cX9_test 127 = .ok (.aload_n 0, 1) := by decide +kernel
theorem dX9_test_128 : decode cX9_test 128 = .ok (.getfield 94, 3) := by decide +kernel
theorem dX9_test_131 : decode cX9_test 131 = .ok (.iload_n 1, 1) := by decide +kernel
theorem dX9_test_132 : decode cX9_test 132 = .ok (.aload_n 0, 1) := by decide +kernel
theorem dX9_test_133 : decode cX9_test 133 = .ok (.getfield 60, 3) := by decide +kernel
theorem dX9_test_136 : decode cX9_test 136 = .ok (.aload_n 0, 1) := by decide +kernel
theorem dX9_test_137 : decode cX9_test 137 = .ok (.getfield 123, 3) := by decide +kernel
theorem dX9_test_140 : decode cX9_test 140 = .ok (.baload, 1) := by decide +kernel
theorem dX9_test_141 : decode cX9_test 141 = .ok (.iastore, 1) := by decide +kernel
theorem dX9_test_142 : decode cX9_test 142 = .ok (.aload_n 0, 1) := by decide +kernel
theorem dX9_test_143 : decode cX9_test 143 = .ok (.dup, 1) := by decide +kernel
theorem dX9_test_144 : decode cX9_test 144 = .ok (.getfield 123, 3) := by decide +kernel
theorem dX9_test_147 : decode cX9_test 147 = .ok (.iconst 1, 1) := by decide +kernel
theorem dX9_test_148 : decode cX9_test 148 = .ok (.iadd, 1) := by decide +kernel
theorem dX9_test_149 : decode cX9_test 149 = .ok (.putfield 123, 3) := by decide +kernel
theorem dX9_test_152 : decode cX9_test 152 = .ok (.aload_n 0, 1) := by decide +kernel
theorem dX9_test_153 : decode cX9_test 153 = .ok (.invokevirtual 148, 3) := by decide +kernel
theorem dX9_test_156 : decode cX9_test 156 = .ok (.ifCond .ne 5, 3) := by decide +kernel
theorem dX9_test_159 : decode cX9_test 159 = .ok (.iconst 0, 1) := by decide +kernel
theorem dX9_test_160 : decode cX9_test 160 = .ok (.ireturn, 1) := by decide +kernel
theorem dX9_test_161 : decode cX9_test 161 = .ok (.aload_n 0, 1) := by decide +kernel
theorem dX9_test_162 : decode cX9_test 162 = .ok (.getfield 97, 3) := by decide +kernel
theorem dX9_test_165 : decode cX9_test 165 = .ok (.iload_n 1, 1) := by decide +kernel
theorem dX9_test_166 : decode cX9_test 166 = .ok (.aload_n 0, 1) := by decide +kernel
theorem dX9_test_167 : decode cX9_test 167 = .ok (.getfield 139, 3) := by decide +kernel
theorem dX9_test_170 : decode cX9_test 170 = .ok (.iastore, 1) := by decide +kernel
theorem dX9_test_171 : decode cX9_test 171 = .ok (.iconst 1, 1) := by decide +kernel
theorem dX9_test_172 : decode cX9_test 172 = .ok (.ireturn, 1) := by decide +kernel
theorem dX9_closing_0 : decode cX9_closing 0 = .ok (.aload_n 0, 1) := by decide +kernel
theorem dX9_closing_1 : decode cX9_closing 1 = .ok (.getfield 73, 3) := by decide +kernel
theorem dX9_closing_4 : decode cX9_closing 4 = .ok (.iload_n 1, 1) := by decide +kernel
theorem dX9_closing_5 : decode cX9_closing 5 = .ok (.iconst 2, 1) := by decide +kernel
theorem dX9_closing_6 : decode cX9_closing 6 = .ok (.iastore, 1) := by decide +kernel
theorem dX9_closing_7 : decode cX9_closing 7 = .ok (.aload_n 0, 1) := by decide +kernel
theorem dX9_closing_8 : decode cX9_closing 8 = .ok (.invokevirtual 148, 3) := by decide +kernel
theorem dX9_closing_11 : decode cX9_closing 11 = .ok (.ifCond .ne 5, 3) := by decide +kernel
theorem dX9_closing_14 : decode cX9_closing 14 = .ok (.iconst 0, 1) := by decide +kernel
theorem dX9_closing_15 : decode cX9_closing 15 = .ok (.ireturn, 1) := by decide +kernel
theorem dX9_closing_16 : decode cX9_closing 16 = .ok (.aload_n 0, 1) := by decide +kernel
theorem dX9_closing_17 : decode cX9_closing 17 = .ok (.getfield 76, 3) := by decide +kernel
theorem dX9_closing_20 : decode cX9_closing 20 = .ok (.iload_n 1, 1) := by decide +kernel
theorem dX9_closing_21 : decode cX9_closing 21 = .ok (.aload_n 0, 1) := by decide +kernel
theorem dX9_closing_22 : decode cX9_closing 22 = .ok (.getfield 139, 3) := by decide +kernel
theorem dX9_closing_25 : decode cX9_closing 25 = .ok (.iastore, 1) := by decide +kernel
theorem dX9_closing_26 : decode cX9_closing 26 = .ok (.aload_n 0, 1) := by decide +kernel
theorem dX9_closing_27 : decode cX9_closing 27 = .ok (.ldc2_w 152, 3) := by decide +kernel
theorem dX9_closing_30 : decode cX9_closing 30 = .ok (.invokevirtual 154, 3) := by decide +kernel
theorem dX9_closing_33 : decode cX9_closing 33 = .ok (.ifCond .eq 10, 3) := by decide +kernel
theorem dX9_closing_36 : decode cX9_closing 36 = .ok (.aload_n 0, 1) := by decide +kernel
theorem dX9_closing_37 : decode cX9_closing 37 = .ok (.invokevirtual 148, 3) := by decide +kernel
theorem dX9_closing_40 : decode cX9_closing 40 = .ok (.ifCond .ne 5, 3) := by decide +kernel
theorem dX9_closing_43 : decode cX9_closing 43 = .ok (.iconst 0, 1) := by decide +kernel
theorem dX9_closing_44 : decode cX9_closing 44 = .ok (.ireturn, 1) := by decide +kernel
theorem dX9_closing_45 : decode cX9_closing 45 = .ok (.aload_n 0, 1) := by decide +kernel
theorem dX9_closing_46 : decode cX9_closing 46 = .ok (.getfield 79, 3) := by decide +kernel
theorem dX9_closing_49 : decode cX9_closing 49 = .ok (.iload_n 1, 1) := by decide +kernel
theorem dX9_closing_50 : decode cX9_closing 50 = .ok (.aload_n 0, 1) := by decide +kernel
theorem dX9_closing_51 : decode cX9_closing 51 = .ok (.getfield 139, 3) := by decide +kernel
theorem dX9_closing_54 : decode cX9_closing 54 = .ok (.iastore, 1) := by decide +kernel
theorem dX9_closing_55 : decode cX9_closing 55 = .ok (.aload_n 0, 1) := by decide +kernel
theorem dX9_closing_56 : decode cX9_closing 56 = .ok (.ldc2_w 158, 3) := by decide +kernel
theorem dX9_closing_59 : decode cX9_closing 59 = .ok (.invokevirtual 154, 3) := by decide +kernel
theorem dX9_closing_62 : decode cX9_closing 62 = .ok (.ifCond .eq 10, 3) := by decide +kernel
theorem dX9_closing_65 : decode cX9_closing 65 = .ok (.aload_n 0, 1) := by decide +kernel
theorem dX9_closing_66 : decode cX9_closing 66 = .ok (.invokevirtual 148, 3) := by decide +kernel
theorem dX9_closing_69 : decode cX9_closing 69 = .ok (.ifCond .ne 5, 3) := by decide +kernel
theorem dX9_closing_72 : decode cX9_closing 72 = .ok (.iconst 0, 1) := by decide +kernel
theorem dX9_closing_73 : decode cX9_closing 73 = .ok (.ireturn, 1) := by decide +kernel
theorem dX9_closing_74 : decode cX9_closing 74 = .ok (.aload_n 0, 1) := by decide +kernel
theorem dX9_closing_75 : decode cX9_closing 75 = .ok (.getfield 82, 3) := by decide +kernel
theorem dX9_closing_78 : decode cX9_closing 78 = .ok (.iload_n 1, 1) := by decide +kernel
theorem dX9_closing_79 : decode cX9_closing 79 = .ok (.aload_n 0, 1) := by decide +kernel
theorem dX9_closing_80 : decode cX9_closing 80 = .ok (.getfield 139, 3) := by decide +kernel
theorem dX9_closing_83 : decode cX9_closing 83 = .ok (.iastore, 1) := by decide +kernel
theorem dX9_closing_84 : decode cX9_closing 84 = .ok (.aload_n 0, 1) := by decide +kernel
theorem dX9_closing_85 : decode cX9_closing 85 = .ok (.ldc2_w 152, 3) := by decide +kernel
theorem dX9_closing_88 : decode cX9_closing 88 = .ok (.invokevirtual 154, 3) := by decide +kernel
theorem dX9_closing_91 : decode cX9_closing 91 = .ok (.ifCond .eq 10, 3) := by decide +kernel
theorem dX9_closing_94 : decode cX9_closing 94 = .ok (.aload_n 0, 1) := by decide +kernel
theorem dX9_closing_95 : decode cX9_closing 95 = .ok (.invokevirtual 148, 3) := by decide +kernel
theorem dX9_closing_98 : decode cX9_closing 98 = .ok (.ifCond .ne 5, 3) := by decide +kernel
theorem dX9_closing_101 : decode cX9_closing 101 = .ok (.iconst 0, 1) := by decide +kernel
theorem dX9_closing_102 : decode cX9_closing 102 = .ok (.ireturn, 1) := by decide +kernel
theorem dX9_closing_103 : decode cX9_closing 103 = .ok (.aload_n 0, 1) := by decide +kernel
theorem dX9_closing_104 : decode cX9_closing 104 = .ok (.getfield 85, 3) := by decide +kernel
theorem dX9_closing_107 : decode cX9_closing 107 = .ok (.iload_n 1, 1) := by decide +kernel
theorem dX9_closing_108 : decode cX9_closing 108 = .ok (.aload_n 0, 1) := by decide +kernel
theorem dX9_closing_109 : decode cX9_closing 109 = .ok (.getfield 139, 3) := by decide +kernel
theorem dX9_closing_112 : decode cX9_closing 112 = .ok (.iastore, 1) := by decide +kernel
theorem dX9_closing_113 : decode cX9_closing 113 = .ok (.iconst 1, 1) := by decide +kernel
theorem dX9_closing_114 : decode cX9_closing 114 = .ok (.ireturn, 1) := by decide +kernel
theorem dX9_acting_0 : decode cX9_acting 0 = .ok (.aload_n 0, 1) := by decide +kernel
theorem dX9_acting_1 : decode cX9_acting 1 = .ok (.getfield 88, 3) := by decide +kernel
theorem dX9_acting_4 : decode cX9_acting 4 = .ok (.iload_n 1, 1) := by decide +kernel
theorem dX9_acting_5 : decode cX9_acting 5 = .ok (.iconst 0, 1) := by decide +kernel
theorem dX9_acting_6 : decode cX9_acting 6 = .ok (.iastore, 1) := by decide +kernel
theorem dX9_acting_7 : decode cX9_acting 7 = .ok (.aload_n 0, 1) := by decide +kernel
theorem dX9_acting_8 : decode cX9_acting 8 = .ok (.invokevirtual 129, 3) := by decide +kernel
theorem dX9_acting_11 : decode cX9_acting 11 = .ok (.aload_n 0, 1) := by decide +kernel
theorem dX9_acting_12 : decode cX9_acting 12 = .ok (.getfield 88, 3) := by decide +kernel
theorem dX9_acting_15 : decode cX9_acting 15 = .ok (.iload_n 1, 1) := by decide +kernel
theorem dX9_acting_16 : decode cX9_acting 16 = .ok (.iaload, 1) := by decide +kernel
theorem dX9_acting_17 : decode cX9_acting 17 = .ok (.iconst 3, 1) := by decide +kernel
theorem dX9_acting_18 : decode cX9_acting 18 = .ok (.if_icmp .eq 20, 3) := by decide +kernel
theorem dX9_acting_21 : decode cX9_acting 21 = .ok (.aload_n 0, 1) := by decide +kernel
theorem dX9_acting_22 : decode cX9_acting 22 = .ok (.iconst 3, 1) := by decide +kernel
theorem dX9_acting_23 : decode cX9_acting 23 = .ok (.iload_n 1, 1) := by decide +kernel
theorem dX9_acting_24 : decode cX9_acting 24 = .ok (.imul, 1) := by decide +kernel
theorem dX9_acting_25 : decode cX9_acting 25 = .ok (.aload_n 0, 1) := by decide +kernel
theorem dX9_acting_26 : decode cX9_acting 26 = .ok (.getfield 88, 3) := by decide +kernel
theorem dX9_acting_29 : decode cX9_acting 29 = .ok (.iload_n 1, 1) := by decide +kernel
theorem dX9_acting_30 : decode cX9_acting 30 = .ok (.iaload, 1) := by decide +kernel
theorem dX9_acting_31 : decode cX9_acting 31 = .ok (.iadd, 1) := by decide +kernel
theorem dX9_acting_32 : decode cX9_acting 32 = .ok (.invokevirtual 160, 3) := by decide +kernel
theorem dX9_acting_35 : decode cX9_acting 35 = .ok (.ifCond .ne 5, 3) := by decide +kernel
theorem dX9_acting_38 : decode cX9_acting 38 = .ok (.iconst 0, 1) := by decide +kernel
theorem dX9_acting_39 : decode cX9_acting 39 = .ok (.ireturn, 1) := by decide +kernel
theorem dX9_acting_40 : decode cX9_acting 40 = .ok (.aload_n 0, 1) := by decide +kernel
theorem dX9_acting_41 : decode cX9_acting 41 = .ok (.getfield 88, 3) := by decide +kernel
theorem dX9_acting_44 : decode cX9_acting 44 = .ok (.iload_n 1, 1) := by decide +kernel
theorem dX9_acting_45 : decode cX9_acting 45 = .ok (.dup2, 1) := by decide +kernel
theorem dX9_acting_46 : decode cX9_acting 46 = .ok (.iaload, 1) := by decide +kernel
theorem dX9_acting_47 : decode cX9_acting 47 = .ok (.iconst 1, 1) := by decide +kernel
theorem dX9_acting_48 : decode cX9_acting 48 = .ok (.iadd, 1) := by decide +kernel
theorem dX9_acting_49 : decode cX9_acting 49 = .ok (.iastore, 1) := by decide +kernel
theorem dX9_acting_50 : decode cX9_acting 50 = .ok (.aload_n 0, 1) := by decide +kernel
theorem dX9_acting_51 : decode cX9_acting 51 = .ok (.ldc2_w 164, 3) := by decide +kernel
theorem dX9_acting_54 : decode cX9_acting 54 = .ok (.invokevirtual 154, 3) := by decide +kernel
theorem dX9_acting_57 : decode cX9_acting 57 = .ok (.ifCond .ne (-50), 3) := by decide +kernel
theorem dX9_acting_60 : decode cX9_acting 60 = .ok (.aload_n 0, 1) := by decide +kernel
theorem dX9_acting_61 : decode cX9_acting 61 = .ok (.ldc2_w 166, 3) := by decide +kernel
theorem dX9_acting_64 : decode cX9_acting 64 = .ok (.invokevirtual 154, 3) := by decide +kernel
theorem dX9_acting_67 : decode cX9_acting 67 = .ok (.ifCond .ne 5, 3) := by decide +kernel
theorem dX9_acting_70 : decode cX9_acting 70 = .ok (.iconst 0, 1) := by decide +kernel
theorem dX9_acting_71 : decode cX9_acting 71 = .ok (.ireturn, 1) := by decide +kernel
theorem dX9_acting_72 : decode cX9_acting 72 = .ok (.aload_n 0, 1) := by decide +kernel
theorem dX9_acting_73 : decode cX9_acting 73 = .ok (.getfield 73, 3) := by decide +kernel
theorem dX9_acting_76 : decode cX9_acting 76 = .ok (.iload_n 1, 1) := by decide +kernel
theorem dX9_acting_77 : decode cX9_acting 77 = .ok (.aload_n 0, 1) := by decide +kernel
theorem dX9_acting_78 : decode cX9_acting 78 = .ok (.ldc2_w 168, 3) := by decide +kernel
theorem dX9_acting_81 : decode cX9_acting 81 = .ok (.invokevirtual 154, 3) := by decide +kernel
theorem dX9_acting_84 : decode cX9_acting 84 = .ok (.ifCond .eq 7, 3) := by decide +kernel
theorem dX9_acting_87 : decode cX9_acting 87 = .ok (.iconst 3, 1) := by decide +kernel
theorem dX9_acting_88 : decode cX9_acting 88 = .ok (.goto 32, 3) := by decide +kernel
theorem dX9_acting_91 : decode cX9_acting 91 = .ok (.aload_n 0, 1) := by decide +kernel
theorem dX9_acting_92 : decode cX9_acting 92 = .ok (.ldc2_w 170, 3) := by decide +kernel
theorem dX9_acting_95 : decode cX9_acting 95 = .ok (.invokevirtual 154, 3) := by decide +kernel
theorem dX9_acting_98 : decode cX9_acting 98 = .ok (.ifCond .eq 7, 3) := by decide +kernel
theorem dX9_acting_101 : decode cX9_acting 101 = .ok (.iconst 4, 1) := by decide +kernel
theorem dX9_acting_102 : decode cX9_acting 102 = .ok (.goto 18, 3) := by decide +kernel
theorem dX9_acting_105 : decode cX9_acting 105 = .ok (.aload_n 0, 1) := by decide +kernel
theorem dX9_acting_106 : decode cX9_acting 106 = .ok (.ldc2_w 172, 3) := by decide +kernel
theorem dX9_acting_109 : decode cX9_acting 109 = .ok (.invokevirtual 154, 3) := by decide +kernel
theorem dX9_acting_112 : decode cX9_acting 112 = .ok (.ifCond .eq 7, 3) := by decide +kernel
theorem dX9_acting_115 : decode cX9_acting 115 = .ok (.iconst 5, 1) := by decide +kernel
theorem dX9_acting_116 : decode cX9_acting 116 = .ok (.goto 4, 3) := by decide +kernel
theorem dX9_acting_119 : decode cX9_acting 119 = .ok (.iconst (-1), 1) := by decide +kernel
theorem dX9_acting_120 : decode cX9_acting 120 = .ok (.iastore, 1) := by decide +kernel
theorem dX9_acting_121 : decode cX9_acting 121 = .ok (.aload_n 0, 1) := by decide +kernel
theorem dX9_acting_122 : decode cX9_acting 122 = .ok (.getfield 73, 3) := by decide +kernel
theorem dX9_acting_125 : decode cX9_acting 125 = .ok (.iload_n 1, 1) := by decide +kernel
theorem dX9_acting_126 : decode cX9_acting 126 = .ok (.iaload, 1) := by decide +kernel
theorem dX9_acting_127 : decode cX9_acting 127 = .ok (.iconst (-1), 1) := by decide +kernel
theorem dX9_acting_128 : decode cX9_acting 128 = .ok (.if_icmp .eq 7, 3) := by decide +kernel
theorem dX9_acting_131 : decode cX9_acting 131 = .ok (.iconst 1, 1) := by decide +kernel
theorem dX9_acting_132 : decode cX9_acting 132 = .ok (.goto 4, 3) := by decide +kernel
theorem dX9_acting_135 : decode cX9_acting 135 = .ok (.iconst 0, 1) := by decide +kernel
theorem dX9_acting_136 : decode cX9_acting 136 = .ok (.ireturn, 1) := by decide +kernel
theorem dX9_statement_0 : decode cX9_statement 0 = .ok (.aload_n 0, 1) := by decide +kernel
theorem dX9_statement_1 : decode cX9_statement 1 = .ok (.ldc2_w 174, 3) := by decide +kernel
theorem dX9_statement_4 : decode cX9_statement 4 = .ok (.invokevirtual 154, 3) := by decide +kernel
theorem dX9_statement_7 : decode cX9_statement 7 = .ok (.ifCond .eq 13, 3) := by decide +kernel
theorem dX9_statement_10 : decode cX9_statement 10 = .ok (.aload_n 0, 1) := by decide +kernel
theorem dX9_statement_11 : decode cX9_statement 11 = .ok (.iload_n 1, 1) := by decide +kernel
theorem dX9_statement_12 : decode cX9_statement 12 = .ok (.invokevirtual 176, 3) := by decide +kernel
theorem dX9_statement_15 : decode cX9_statement 15 = .ok (.ifCond .ne 89, 3) := by decide +kernel
theorem dX9_statement_18 : decode cX9_statement 18 = .ok (.iconst 0, 1) := by decide +kernel
theorem dX9_statement_19 : decode cX9_statement 19 = .ok (.ireturn, 1) := by decide +kernel
theorem dX9_statement_20 : decode cX9_statement 20 = .ok (.aload_n 0, 1) := by decide +kernel
theorem dX9_statement_21 : decode cX9_statement 21 = .ok (.ldc2_w 179, 3) := by decide +kernel
theorem dX9_statement_24 : decode cX9_statement 24 = .ok (.invokevirtual 154, 3) := by decide +kernel
theorem dX9_statement_27 : decode cX9_statement 27 = .ok (.ifCond .eq 13, 3) := by decide +kernel
theorem dX9_statement_30 : decode cX9_statement 30 = .ok (.aload_n 0, 1) := by decide +kernel
theorem dX9_statement_31 : decode cX9_statement 31 = .ok (.iload_n 1, 1) := by decide +kernel
theorem dX9_statement_32 : decode cX9_statement 32 = .ok (.invokevirtual 181, 3) := by decide +kernel
theorem dX9_statement_35 : decode cX9_statement 35 = .ok (.ifCond .ne 69, 3) := by decide +kernel
theorem dX9_statement_38 : decode cX9_statement 38 = .ok (.iconst 0, 1) := by decide +kernel
theorem dX9_statement_39 : decode cX9_statement 39 = .ok (.ireturn, 1) := by decide +kernel
theorem dX9_statement_40 : decode cX9_statement 40 = .ok (.aload_n 0, 1) := by decide +kernel
theorem dX9_statement_41 : decode cX9_statement 41 = .ok (.getfield 73, 3) := by decide +kernel
theorem dX9_statement_44 : decode cX9_statement 44 = .ok (.iload_n 1, 1) := by decide +kernel
theorem dX9_statement_45 : decode cX9_statement 45 = .ok (.aload_n 0, 1) := by decide +kernel
theorem dX9_statement_46 : decode cX9_statement 46 = .ok (.ldc2_w 184, 3) := by decide +kernel
theorem dX9_statement_49 : decode cX9_statement 49 = .ok (.invokevirtual 154, 3) := by decide +kernel
theorem dX9_statement_52 : decode cX9_statement 52 = .ok (.ifCond .eq 7, 3) := by decide +kernel
theorem dX9_statement_55 : decode cX9_statement 55 = .ok (.iconst 0, 1) := by decide +kernel
theorem dX9_statement_56 : decode cX9_statement 56 = .ok (.goto 18, 3) := by decide +kernel
theorem dX9_statement_59 : decode cX9_statement 59 = .ok (.aload_n 0, 1) := by decide +kernel
theorem dX9_statement_60 : decode cX9_statement 60 = .ok (.ldc2_w 186, 3) := by decide +kernel
theorem dX9_statement_63 : decode cX9_statement 63 = .ok (.invokevirtual 154, 3) := by decide +kernel
theorem dX9_statement_66 : decode cX9_statement 66 = .ok (.ifCond .eq 7, 3) := by decide +kernel
theorem dX9_statement_69 : decode cX9_statement 69 = .ok (.iconst 1, 1) := by decide +kernel
theorem dX9_statement_70 : decode cX9_statement 70 = .ok (.goto 4, 3) := by decide +kernel
theorem dX9_statement_73 : decode cX9_statement 73 = .ok (.iconst (-1), 1) := by decide +kernel
theorem dX9_statement_74 : decode cX9_statement 74 = .ok (.iastore, 1) := by decide +kernel
theorem dX9_statement_75 : decode cX9_statement 75 = .ok (.aload_n 0, 1) := by decide +kernel
theorem dX9_statement_76 : decode cX9_statement 76 = .ok (.getfield 73, 3) := by decide +kernel
theorem dX9_statement_79 : decode cX9_statement 79 = .ok (.iload_n 1, 1) := by decide +kernel
theorem dX9_statement_80 : decode cX9_statement 80 = .ok (.iaload, 1) := by decide +kernel
theorem dX9_statement_81 : decode cX9_statement 81 = .ok (.iconst (-1), 1) := by decide +kernel
theorem dX9_statement_82 : decode cX9_statement 82 = .ok (.if_icmp .eq 10, 3) := by decide +kernel
theorem dX9_statement_85 : decode cX9_statement 85 = .ok (.aload_n 0, 1) := by decide +kernel
theorem dX9_statement_86 : decode cX9_statement 86 = .ok (.invokevirtual 148, 3) := by decide +kernel
theorem dX9_statement_89 : decode cX9_statement 89 = .ok (.ifCond .ne 5, 3) := by decide +kernel
theorem dX9_statement_92 : decode cX9_statement 92 = .ok (.iconst 0, 1) := by decide +kernel
theorem dX9_statement_93 : decode cX9_statement 93 = .ok (.ireturn, 1) := by decide +kernel
theorem dX9_statement_94 : decode cX9_statement 94 = .ok (.aload_n 0, 1) := by decide +kernel
theorem dX9_statement_95 : decode cX9_statement 95 = .ok (.getfield 76, 3) := by decide +kernel
theorem dX9_statement_98 : decode cX9_statement 98 = .ok (.iload_n 1, 1) := by decide +kernel
theorem dX9_statement_99 : decode cX9_statement 99 = .ok (.aload_n 0, 1) := by decide +kernel
theorem dX9_statement_100 : decode cX9_statement 100 = .ok (.getfield 139, 3) := by decide +kernel
theorem dX9_statement_103 : decode cX9_statement 103 = .ok (.iastore, 1) := by decide +kernel
theorem dX9_statement_104 : decode cX9_statement 104 = .ok (.aload_n 0, 1) := by decide +kernel
theorem dX9_statement_105 : decode cX9_statement 105 = .ok (.invokevirtual 129, 3) := by decide +kernel
theorem dX9_statement_108 : decode cX9_statement 108 = .ok (.aload_n 0, 1) := by decide +kernel
theorem dX9_statement_109 : decode cX9_statement 109 = .ok (.getfield 123, 3) := by decide +kernel
theorem dX9_statement_112 : decode cX9_statement 112 = .ok (.aload_n 0, 1) := by decide +kernel
theorem dX9_statement_113 : decode cX9_statement 113 = .ok (.getfield 126, 3) := by decide +kernel
theorem dX9_statement_116 : decode cX9_statement 116 = .ok (.if_icmp .eq 17, 3) := by decide +kernel
theorem dX9_statement_119 : decode cX9_statement 119 = .ok (.aload_n 0, 1) := by decide +kernel
theorem dX9_statement_120 : decode cX9_statement 120 = .ok (.getfield 60, 3) := by decide +kernel
theorem dX9_statement_123 : decode cX9_statement 123 = .ok (.aload_n 0, 1) := by decide +kernel
theorem dX9_statement_124 : decode cX9_statement 124 = .ok (.getfield 123, 3) := by decide +kernel
theorem dX9_statement_127 : decode cX9_statement 127 = .ok (.baload, 1) := by decide +kernel
theorem dX9_statement_128 : decode cX9_statement 128 = .ok (.bipush 59, 2) := by decide +kernel
theorem dX9_statement_130 : decode cX9_statement 130 = .ok (.if_icmp .eq 5, 3) := by decide +kernel
theorem dX9_statement_133 : decode cX9_statement 133 = .ok (.iconst 0, 1) := by decide +kernel
theorem dX9_statement_134 : decode cX9_statement 134 = .ok (.ireturn, 1) := by decide +kernel
theorem dX9_statement_135 : decode cX9_statement 135 = .ok (.aload_n 0, 1) := by decide +kernel
theorem dX9_statement_136 : decode cX9_statement 136 = .ok (.dup, 1) := by decide +kernel
theorem dX9_statement_137 : decode cX9_statement 137 = .ok (.getfield 123, 3) := by decide +kernel
theorem dX9_statement_140 : decode cX9_statement 140 = .ok (.iconst 1, 1) := by decide +kernel
theorem dX9_statement_141 : decode cX9_statement 141 = .ok (.iadd, 1) := by decide +kernel
theorem dX9_statement_142 : decode cX9_statement 142 = .ok (.putfield 123, 3) := by decide +kernel
theorem dX9_statement_145 : decode cX9_statement 145 = .ok (.iconst 1, 1) := by decide +kernel
theorem dX9_statement_146 : decode cX9_statement 146 = .ok (.ireturn, 1) := by decide +kernel
theorem dX9_law_0 : decode cX9_law 0 = .ok (.iload_n 1, 1) := by decide +kernel
theorem dX9_law_1 : decode cX9_law 1 = .ok (.iconst 0, 1) := by decide +kernel
theorem dX9_law_2 : decode cX9_law 2 = .ok (.aload_n 0, 1) := by decide +kernel
theorem dX9_law_3 : decode cX9_law 3 = .ok (.getfield 116, 3) := by decide +kernel
theorem dX9_law_6 : decode cX9_law 6 = .ok (.invokestatic 109, 3) := by decide +kernel
theorem dX9_law_9 : decode cX9_law 9 = .ok (.ifCond .ne 6, 3) := by decide +kernel
theorem dX9_law_12 : decode cX9_law 12 = .ok (.bipush (-2), 2) := by decide +kernel
theorem dX9_law_14 : decode cX9_law 14 = .ok (.ireturn, 1) := by decide +kernel
theorem dX9_law_15 : decode cX9_law 15 = .ok (.aload_n 0, 1) := by decide +kernel
theorem dX9_law_16 : decode cX9_law 16 = .ok (.getfield 188, 3) := by decide +kernel
theorem dX9_law_19 : decode cX9_law 19 = .ok (.bipush 8, 2) := by decide +kernel
theorem dX9_law_21 : decode cX9_law 21 = .ok (.if_icmp .ne 6, 3) := by decide +kernel
theorem dX9_law_24 : decode cX9_law 24 = .ok (.bipush (-3), 2) := by decide +kernel
theorem dX9_law_26 : decode cX9_law 26 = .ok (.ireturn, 1) := by decide +kernel
theorem dX9_law_27 : decode cX9_law 27 = .ok (.iconst 0, 1) := by decide +kernel
theorem dX9_law_28 : decode cX9_law 28 = .ok (.istore_n 2, 1) := by decide +kernel
theorem dX9_law_29 : decode cX9_law 29 = .ok (.iload_n 2, 1) := by decide +kernel
theorem dX9_law_30 : decode cX9_law 30 = .ok (.iload_n 1, 1) := by decide +kernel
theorem dX9_law_31 : decode cX9_law 31 = .ok (.if_icmp .ge 21, 3) := by decide +kernel
theorem dX9_law_34 : decode cX9_law 34 = .ok (.aload_n 0, 1) := by decide +kernel
theorem dX9_law_35 : decode cX9_law 35 = .ok (.getfield 60, 3) := by decide +kernel
theorem dX9_law_38 : decode cX9_law 38 = .ok (.iload_n 2, 1) := by decide +kernel
theorem dX9_law_39 : decode cX9_law 39 = .ok (.aload_n 0, 1) := by decide +kernel
theorem dX9_law_40 : decode cX9_law 40 = .ok (.getfield 56, 3) := by decide +kernel
theorem dX9_law_43 : decode cX9_law 43 = .ok (.iload_n 2, 1) := by decide +kernel
theorem dX9_law_44 : decode cX9_law 44 = .ok (.baload, 1) := by decide +kernel
theorem dX9_law_45 : decode cX9_law 45 = .ok (.bastore, 1) := by decide +kernel
theorem dX9_law_46 : decode cX9_law 46 = .ok (.iinc 2 1, 3) := by decide +kernel
theorem dX9_law_49 : decode cX9_law 49 = .ok (.goto (-20), 3) := by decide +kernel
theorem dX9_law_52 : decode cX9_law 52 = .ok (.aload_n 0, 1) := by decide +kernel
theorem dX9_law_53 : decode cX9_law 53 = .ok (.iload_n 1, 1) := by decide +kernel
theorem dX9_law_54 : decode cX9_law 54 = .ok (.putfield 126, 3) := by decide +kernel
theorem dX9_law_57 : decode cX9_law 57 = .ok (.aload_n 0, 1) := by decide +kernel
theorem dX9_law_58 : decode cX9_law 58 = .ok (.iconst 0, 1) := by decide +kernel
theorem dX9_law_59 : decode cX9_law 59 = .ok (.putfield 116, 3) := by decide +kernel
theorem dX9_law_62 : decode cX9_law 62 = .ok (.aload_n 0, 1) := by decide +kernel
theorem dX9_law_63 : decode cX9_law 63 = .ok (.iconst 0, 1) := by decide +kernel
theorem dX9_law_64 : decode cX9_law 64 = .ok (.putfield 123, 3) := by decide +kernel
theorem dX9_law_67 : decode cX9_law 67 = .ok (.aload_n 0, 1) := by decide +kernel
theorem dX9_law_68 : decode cX9_law 68 = .ok (.getfield 67, 3) := by decide +kernel
theorem dX9_law_71 : decode cX9_law 71 = .ok (.aload_n 0, 1) := by decide +kernel
theorem dX9_law_72 : decode cX9_law 72 = .ok (.getfield 188, 3) := by decide +kernel
theorem dX9_law_75 : decode cX9_law 75 = .ok (.iconst 0, 1) := by decide +kernel
theorem dX9_law_76 : decode cX9_law 76 = .ok (.iastore, 1) := by decide +kernel
theorem dX9_law_77 : decode cX9_law 77 = .ok (.iconst 1, 1) := by decide +kernel
theorem dX9_law_78 : decode cX9_law 78 = .ok (.istore_n 2, 1) := by decide +kernel
theorem dX9_law_79 : decode cX9_law 79 = .ok (.aload_n 0, 1) := by decide +kernel
theorem dX9_law_80 : decode cX9_law 80 = .ok (.invokevirtual 129, 3) := by decide +kernel
theorem dX9_law_83 : decode cX9_law 83 = .ok (.iload_n 2, 1) := by decide +kernel
theorem dX9_law_84 : decode cX9_law 84 = .ok (.ifCond .eq 85, 3) := by decide +kernel
theorem dX9_law_87 : decode cX9_law 87 = .ok (.aload_n 0, 1) := by decide +kernel
theorem dX9_law_88 : decode cX9_law 88 = .ok (.getfield 123, 3) := by decide +kernel
theorem dX9_law_91 : decode cX9_law 91 = .ok (.aload_n 0, 1) := by decide +kernel
theorem dX9_law_92 : decode cX9_law 92 = .ok (.getfield 126, 3) := by decide +kernel
theorem dX9_law_95 : decode cX9_law 95 = .ok (.if_icmp .ge 74, 3) := by decide +kernel
theorem dX9_law_98 : decode cX9_law 98 = .ok (.aload_n 0, 1) := by decide +kernel
theorem dX9_law_99 : decode cX9_law 99 = .ok (.getfield 67, 3) := by decide +kernel
theorem dX9_law_102 : decode cX9_law 102 = .ok (.aload_n 0, 1) := by decide +kernel
theorem dX9_law_103 : decode cX9_law 103 = .ok (.getfield 188, 3) := by decide +kernel
theorem dX9_law_106 : decode cX9_law 106 = .ok (.iaload, 1) := by decide +kernel
theorem dX9_law_107 : decode cX9_law 107 = .ok (.bipush 16, 2) := by decide +kernel
theorem dX9_law_109 : decode cX9_law 109 = .ok (.if_icmp .ge 31, 3) := by decide +kernel
theorem dX9_law_112 : decode cX9_law 112 = .ok (.aload_n 0, 1) := by decide +kernel
theorem dX9_law_113 : decode cX9_law 113 = .ok (.bipush 16, 2) := by decide +kernel
theorem dX9_law_115 : decode cX9_law 115 = .ok (.aload_n 0, 1) := by decide +kernel
theorem dX9_law_116 : decode cX9_law 116 = .ok (.getfield 188, 3) := by decide +kernel
theorem dX9_law_119 : decode cX9_law 119 = .ok (.imul, 1) := by decide +kernel
theorem dX9_law_120 : decode cX9_law 120 = .ok (.aload_n 0, 1) := by decide +kernel
theorem dX9_law_121 : decode cX9_law 121 = .ok (.getfield 67, 3) := by decide +kernel
theorem dX9_law_124 : decode cX9_law 124 = .ok (.aload_n 0, 1) := by decide +kernel
theorem dX9_law_125 : decode cX9_law 125 = .ok (.getfield 188, 3) := by decide +kernel
theorem dX9_law_128 : decode cX9_law 128 = .ok (.iaload, 1) := by decide +kernel
theorem dX9_law_129 : decode cX9_law 129 = .ok (.iadd, 1) := by decide +kernel
theorem dX9_law_130 : decode cX9_law 130 = .ok (.invokevirtual 191, 3) := by decide +kernel
theorem dX9_law_133 : decode cX9_law 133 = .ok (.ifCond .eq 7, 3) := by decide +kernel
theorem dX9_law_136 : decode cX9_law 136 = .ok (.iconst 1, 1) := by decide +kernel
theorem dX9_law_137 : decode cX9_law 137 = .ok (.goto 4, 3) := by decide +kernel
theorem dX9_law_140 : decode cX9_law 140 = .ok (.iconst 0, 1) := by decide +kernel
theorem dX9_law_141 : decode cX9_law 141 = .ok (.istore_n 2, 1) := by decide +kernel
theorem dX9_law_142 : decode cX9_law 142 = .ok (.iload_n 2, 1) := by decide +kernel
theorem dX9_law_143 : decode cX9_law 143 = .ok (.ifCond .ne 6, 3) := by decide +kernel
theorem dX9_law_146 : decode cX9_law 146 = .ok (.goto (-63), 3) := by decide +kernel
theorem dX9_law_149 : decode cX9_law 149 = .ok (.aload_n 0, 1) := by decide +kernel
theorem dX9_law_150 : decode cX9_law 150 = .ok (.getfield 67, 3) := by decide +kernel
theorem dX9_law_153 : decode cX9_law 153 = .ok (.aload_n 0, 1) := by decide +kernel
theorem dX9_law_154 : decode cX9_law 154 = .ok (.getfield 188, 3) := by decide +kernel
theorem dX9_law_157 : decode cX9_law 157 = .ok (.dup2, 1) := by decide +kernel
theorem dX9_law_158 : decode cX9_law 158 = .ok (.iaload, 1) := by decide +kernel
theorem dX9_law_159 : decode cX9_law 159 = .ok (.iconst 1, 1) := by decide +kernel
theorem dX9_law_160 : decode cX9_law 160 = .ok (.iadd, 1) := by decide +kernel
theorem dX9_law_161 : decode cX9_law 161 = .ok (.iastore, 1) := by decide +kernel
theorem dX9_law_162 : decode cX9_law 162 = .ok (.aload_n 0, 1) := by decide +kernel
theorem dX9_law_163 : decode cX9_law 163 = .ok (.invokevirtual 129, 3) := by decide +kernel
theorem dX9_law_166 : decode cX9_law 166 = .ok (.goto (-83), 3) := by decide +kernel
theorem dX9_law_169 : decode cX9_law 169 = .ok (.aload_n 0, 1) := by decide +kernel
theorem dX9_law_170 : decode cX9_law 170 = .ok (.iload_n 2, 1) := by decide +kernel
theorem dX9_law_171 : decode cX9_law 171 = .ok (.ifCond .eq 7, 3) := by decide +kernel
theorem dX9_law_174 : decode cX9_law 174 = .ok (.iconst (-1), 1) := by decide +kernel
theorem dX9_law_175 : decode cX9_law 175 = .ok (.goto 7, 3) := by decide +kernel
theorem dX9_law_178 : decode cX9_law 178 = .ok (.aload_n 0, 1) := by decide +kernel
theorem dX9_law_179 : decode cX9_law 179 = .ok (.getfield 123, 3) := by decide +kernel
theorem dX9_law_182 : decode cX9_law 182 = .ok (.putfield 63, 3) := by decide +kernel
theorem dX9_law_185 : decode cX9_law 185 = .ok (.iload_n 2, 1) := by decide +kernel
theorem dX9_law_186 : decode cX9_law 186 = .ok (.ifCond .ne 5, 3) := by decide +kernel
theorem dX9_law_189 : decode cX9_law 189 = .ok (.iconst (-1), 1) := by decide +kernel
theorem dX9_law_190 : decode cX9_law 190 = .ok (.ireturn, 1) := by decide +kernel
theorem dX9_law_191 : decode cX9_law 191 = .ok (.aload_n 0, 1) := by decide +kernel
theorem dX9_law_192 : decode cX9_law 192 = .ok (.getfield 70, 3) := by decide +kernel
theorem dX9_law_195 : decode cX9_law 195 = .ok (.aload_n 0, 1) := by decide +kernel
theorem dX9_law_196 : decode cX9_law 196 = .ok (.getfield 188, 3) := by decide +kernel
theorem dX9_law_199 : decode cX9_law 199 = .ok (.aload_n 0, 1) := by decide +kernel
theorem dX9_law_200 : decode cX9_law 200 = .ok (.getfield 194, 3) := by decide +kernel
theorem dX9_law_203 : decode cX9_law 203 = .ok (.iastore, 1) := by decide +kernel
theorem dX9_law_204 : decode cX9_law 204 = .ok (.aload_n 0, 1) := by decide +kernel
theorem dX9_law_205 : decode cX9_law 205 = .ok (.dup, 1) := by decide +kernel
theorem dX9_law_206 : decode cX9_law 206 = .ok (.getfield 188, 3) := by decide +kernel
theorem dX9_law_209 : decode cX9_law 209 = .ok (.iconst 1, 1) := by decide +kernel
theorem dX9_law_210 : decode cX9_law 210 = .ok (.iadd, 1) := by decide +kernel
theorem dX9_law_211 : decode cX9_law 211 = .ok (.putfield 188, 3) := by decide +kernel
theorem dX9_law_214 : decode cX9_law 214 = .ok (.aload_n 0, 1) := by decide +kernel
theorem dX9_law_215 : decode cX9_law 215 = .ok (.getfield 188, 3) := by decide +kernel
theorem dX9_law_218 : decode cX9_law 218 = .ok (.iconst 1, 1) := by decide +kernel
theorem dX9_law_219 : decode cX9_law 219 = .ok (.isub, 1) := by decide +kernel
theorem dX9_law_220 : decode cX9_law 220 = .ok (.ireturn, 1) := by decide +kernel
theorem dX9_fault_0 : decode cX9_fault 0 = .ok (.aload_n 0, 1) := by decide +kernel
theorem dX9_fault_1 : decode cX9_fault 1 = .ok (.getfield 63, 3) := by decide +kernel
theorem dX9_fault_4 : decode cX9_fault 4 = .ok (.ireturn, 1) := by decide +kernel
theorem dX9_inForce_0 : decode cX9_inForce 0 = .ok (.iconst (-1), 1) := by decide +kernel
theorem dX9_inForce_1 : decode cX9_inForce 1 = .ok (.istore_n 2, 1) := by decide +kernel
theorem dX9_inForce_2 : decode cX9_inForce 2 = .ok (.iconst 0, 1) := by decide +kernel
theorem dX9_inForce_3 : decode cX9_inForce 3 = .ok (.istore_n 3, 1) := by decide +kernel
theorem dX9_inForce_4 : decode cX9_inForce 4 = .ok (.iload_n 3, 1) := by decide +kernel
theorem dX9_inForce_5 : decode cX9_inForce 5 = .ok (.aload_n 0, 1) := by decide +kernel
theorem dX9_inForce_6 : decode cX9_inForce 6 = .ok (.getfield 188, 3) := by decide +kernel
theorem dX9_inForce_9 : decode cX9_inForce 9 = .ok (.if_icmp .ge 21, 3) := by decide +kernel
theorem dX9_inForce_12 : decode cX9_inForce 12 = .ok (.aload_n 0, 1) := by decide +kernel
theorem dX9_inForce_13 : decode cX9_inForce 13 = .ok (.getfield 70, 3) := by decide +kernel
theorem dX9_inForce_16 : decode cX9_inForce 16 = .ok (.iload_n 3, 1) := by decide +kernel
theorem dX9_inForce_17 : decode cX9_inForce 17 = .ok (.iaload, 1) := by decide +kernel
theorem dX9_inForce_18 : decode cX9_inForce 18 = .ok (.iload_n 1, 1) := by decide +kernel
theorem dX9_inForce_19 : decode cX9_inForce 19 = .ok (.if_icmp .gt 5, 3) := by decide +kernel
theorem dX9_inForce_22 : decode cX9_inForce 22 = .ok (.iload_n 3, 1) := by decide +kernel
theorem dX9_inForce_23 : decode cX9_inForce 23 = .ok (.istore_n 2, 1) := by decide +kernel
theorem dX9_inForce_24 : decode cX9_inForce 24 = .ok (.iinc 3 1, 3) := by decide +kernel
theorem dX9_inForce_27 : decode cX9_inForce 27 = .ok (.goto (-23), 3) := by decide +kernel
theorem dX9_inForce_30 : decode cX9_inForce 30 = .ok (.iload_n 2, 1) := by decide +kernel
theorem dX9_inForce_31 : decode cX9_inForce 31 = .ok (.ireturn, 1) := by decide +kernel
theorem dX9_lastOf_0 : decode cX9_lastOf 0 = .ok (.aload_n 0, 1) := by decide +kernel
theorem dX9_lastOf_1 : decode cX9_lastOf 1 = .ok (.iload_n 1, 1) := by decide +kernel
theorem dX9_lastOf_2 : decode cX9_lastOf 2 = .ok (.invokevirtual 197, 3) := by decide +kernel
theorem dX9_lastOf_5 : decode cX9_lastOf 5 = .ok (.istore 4, 2) := by decide +kernel
theorem dX9_lastOf_7 : decode cX9_lastOf 7 = .ok (.iload_n 3, 1) := by decide +kernel
theorem dX9_lastOf_8 : decode cX9_lastOf 8 = .ok (.istore 5, 2) := by decide +kernel
theorem dX9_lastOf_10 : decode cX9_lastOf 10 = .ok (.bipush 16, 2) := by decide +kernel
theorem dX9_lastOf_12 : decode cX9_lastOf 12 = .ok (.iload 4, 2) := by decide +kernel
theorem dX9_lastOf_14 : decode cX9_lastOf 14 = .ok (.imul, 1) := by decide +kernel
theorem dX9_lastOf_15 : decode cX9_lastOf 15 = .ok (.istore 6, 2) := by decide +kernel
theorem dX9_lastOf_17 : decode cX9_lastOf 17 = .ok (.iload 4, 2) := by decide +kernel
theorem dX9_lastOf_19 : decode cX9_lastOf 19 = .ok (.iconst (-1), 1) := by decide +kernel
theorem dX9_lastOf_20 : decode cX9_lastOf 20 = .ok (.if_icmp .eq 47, 3) := by decide +kernel
theorem dX9_lastOf_23 : decode cX9_lastOf 23 = .ok (.iload 6, 2) := by decide +kernel
theorem dX9_lastOf_25 : decode cX9_lastOf 25 = .ok (.bipush 16, 2) := by decide +kernel
theorem dX9_lastOf_27 : decode cX9_lastOf 27 = .ok (.iload 4, 2) := by decide +kernel
theorem dX9_lastOf_29 : decode cX9_lastOf 29 = .ok (.imul, 1) := by decide +kernel
theorem dX9_lastOf_30 : decode cX9_lastOf 30 = .ok (.aload_n 0, 1) := by decide +kernel
theorem dX9_lastOf_31 : decode cX9_lastOf 31 = .ok (.getfield 67, 3) := by decide +kernel
theorem dX9_lastOf_34 : decode cX9_lastOf 34 = .ok (.iload 4, 2) := by decide +kernel
theorem dX9_lastOf_36 : decode cX9_lastOf 36 = .ok (.iaload, 1) := by decide +kernel
theorem dX9_lastOf_37 : decode cX9_lastOf 37 = .ok (.iadd, 1) := by decide +kernel
theorem dX9_lastOf_38 : decode cX9_lastOf 38 = .ok (.if_icmp .ge 29, 3) := by decide +kernel
theorem dX9_lastOf_41 : decode cX9_lastOf 41 = .ok (.aload_n 0, 1) := by decide +kernel
theorem dX9_lastOf_42 : decode cX9_lastOf 42 = .ok (.getfield 73, 3) := by decide +kernel
theorem dX9_lastOf_45 : decode cX9_lastOf 45 = .ok (.iload 6, 2) := by decide +kernel
theorem dX9_lastOf_47 : decode cX9_lastOf 47 = .ok (.iaload, 1) := by decide +kernel
theorem dX9_lastOf_48 : decode cX9_lastOf 48 = .ok (.iload_n 2, 1) := by decide +kernel
theorem dX9_lastOf_49 : decode cX9_lastOf 49 = .ok (.if_icmp .ne 12, 3) := by decide +kernel
theorem dX9_lastOf_52 : decode cX9_lastOf 52 = .ok (.aload_n 0, 1) := by decide +kernel
theorem dX9_lastOf_53 : decode cX9_lastOf 53 = .ok (.getfield 76, 3) := by decide +kernel
theorem dX9_lastOf_56 : decode cX9_lastOf 56 = .ok (.iload 6, 2) := by decide +kernel
theorem dX9_lastOf_58 : decode cX9_lastOf 58 = .ok (.iaload, 1) := by decide +kernel
theorem dX9_lastOf_59 : decode cX9_lastOf 59 = .ok (.istore 5, 2) := by decide +kernel
theorem dX9_lastOf_61 : decode cX9_lastOf 61 = .ok (.iinc 6 1, 3) := by decide +kernel
theorem dX9_lastOf_64 : decode cX9_lastOf 64 = .ok (.goto (-47), 3) := by decide +kernel
theorem dX9_lastOf_67 : decode cX9_lastOf 67 = .ok (.iload 5, 2) := by decide +kernel
theorem dX9_lastOf_69 : decode cX9_lastOf 69 = .ok (.ireturn, 1) := by decide +kernel
theorem dX9_isClosed_0 : decode cX9_isClosed 0 = .ok (.aload_n 0, 1) := by decide +kernel
theorem dX9_isClosed_1 : decode cX9_isClosed 1 = .ok (.iload_n 1, 1) := by decide +kernel
theorem dX9_isClosed_2 : decode cX9_isClosed 2 = .ok (.invokevirtual 197, 3) := by decide +kernel
theorem dX9_isClosed_5 : decode cX9_isClosed 5 = .ok (.istore_n 3, 1) := by decide +kernel
theorem dX9_isClosed_6 : decode cX9_isClosed 6 = .ok (.iload_n 1, 1) := by decide +kernel
theorem dX9_isClosed_7 : decode cX9_isClosed 7 = .ok (.sipush 365, 3) := by decide +kernel
theorem dX9_isClosed_10 : decode cX9_isClosed 10 = .ok (.irem, 1) := by decide +kernel
theorem dX9_isClosed_11 : decode cX9_isClosed 11 = .ok (.istore 4, 2) := by decide +kernel
theorem dX9_isClosed_13 : decode cX9_isClosed 13 = .ok (.iconst 0, 1) := by decide +kernel
theorem dX9_isClosed_14 : decode cX9_isClosed 14 = .ok (.istore 5, 2) := by decide +kernel
theorem dX9_isClosed_16 : decode cX9_isClosed 16 = .ok (.bipush 16, 2) := by decide +kernel
theorem dX9_isClosed_18 : decode cX9_isClosed 18 = .ok (.iload_n 3, 1) := by decide +kernel
theorem dX9_isClosed_19 : decode cX9_isClosed 19 = .ok (.imul, 1) := by decide +kernel
theorem dX9_isClosed_20 : decode cX9_isClosed 20 = .ok (.istore 6, 2) := by decide +kernel
theorem dX9_isClosed_22 : decode cX9_isClosed 22 = .ok (.iload_n 3, 1) := by decide +kernel
theorem dX9_isClosed_23 : decode cX9_isClosed 23 = .ok (.iconst (-1), 1) := by decide +kernel
theorem dX9_isClosed_24 : decode cX9_isClosed 24 = .ok (.if_icmp .eq 138, 3) := by decide +kernel
theorem dX9_isClosed_27 : decode cX9_isClosed 27 = .ok (.iload 6, 2) := by decide +kernel
theorem dX9_isClosed_29 : decode cX9_isClosed 29 = .ok (.bipush 16, 2) := by decide +kernel
theorem dX9_isClosed_31 : decode cX9_isClosed 31 = .ok (.iload_n 3, 1) := by decide +kernel
theorem dX9_isClosed_32 : decode cX9_isClosed 32 = .ok (.imul, 1) := by decide +kernel
theorem dX9_isClosed_33 : decode cX9_isClosed 33 = .ok (.aload_n 0, 1) := by decide +kernel
theorem dX9_isClosed_34 : decode cX9_isClosed 34 = .ok (.getfield 67, 3) := by decide +kernel
theorem dX9_isClosed_37 : decode cX9_isClosed 37 = .ok (.iload_n 3, 1) := by decide +kernel
theorem dX9_isClosed_38 : decode cX9_isClosed 38 = .ok (.iaload, 1) := by decide +kernel
theorem dX9_isClosed_39 : decode cX9_isClosed 39 = .ok (.iadd, 1) := by decide +kernel
theorem dX9_isClosed_40 : decode cX9_isClosed 40 = .ok (.if_icmp .ge 122, 3) := by decide +kernel
theorem dX9_isClosed_43 : decode cX9_isClosed 43 = .ok (.aload_n 0, 1) := by decide +kernel
theorem dX9_isClosed_44 : decode cX9_isClosed 44 = .ok (.getfield 73, 3) := by decide +kernel
theorem dX9_isClosed_47 : decode cX9_isClosed 47 = .ok (.iload 6, 2) := by decide +kernel
theorem dX9_isClosed_49 : decode cX9_isClosed 49 = .ok (.iaload, 1) := by decide +kernel
theorem dX9_isClosed_50 : decode cX9_isClosed 50 = .ok (.iconst 2, 1) := by decide +kernel
theorem dX9_isClosed_51 : decode cX9_isClosed 51 = .ok (.if_icmp .ne 105, 3) := by decide +kernel
theorem dX9_isClosed_54 : decode cX9_isClosed 54 = .ok (.iload_n 2, 1) := by decide +kernel
theorem dX9_isClosed_55 : decode cX9_isClosed 55 = .ok (.aload_n 0, 1) := by decide +kernel
theorem dX9_isClosed_56 : decode cX9_isClosed 56 = .ok (.getfield 76, 3) := by decide +kernel
theorem dX9_isClosed_59 : decode cX9_isClosed 59 = .ok (.iload 6, 2) := by decide +kernel
theorem dX9_isClosed_61 : decode cX9_isClosed 61 = .ok (.iaload, 1) := by decide +kernel
theorem dX9_isClosed_62 : decode cX9_isClosed 62 = .ok (.aload_n 0, 1) := by decide +kernel
theorem dX9_isClosed_63 : decode cX9_isClosed 63 = .ok (.getfield 79, 3) := by decide +kernel
theorem dX9_isClosed_66 : decode cX9_isClosed 66 = .ok (.iload 6, 2) := by decide +kernel
theorem dX9_isClosed_68 : decode cX9_isClosed 68 = .ok (.iaload, 1) := by decide +kernel
theorem dX9_isClosed_69 : decode cX9_isClosed 69 = .ok (.invokestatic 109, 3) := by decide +kernel
theorem dX9_isClosed_72 : decode cX9_isClosed 72 = .ok (.ifCond .ne 6, 3) := by decide +kernel
theorem dX9_isClosed_75 : decode cX9_isClosed 75 = .ok (.goto 81, 3) := by decide +kernel
theorem dX9_isClosed_78 : decode cX9_isClosed 78 = .ok (.iload 5, 2) := by decide +kernel
theorem dX9_isClosed_80 : decode cX9_isClosed 80 = .ok (.ifCond .ne 69, 3) := by decide +kernel
theorem dX9_isClosed_83 : decode cX9_isClosed 83 = .ok (.aload_n 0, 1) := by decide +kernel
theorem dX9_isClosed_84 : decode cX9_isClosed 84 = .ok (.getfield 82, 3) := by decide +kernel
theorem dX9_isClosed_87 : decode cX9_isClosed 87 = .ok (.iload 6, 2) := by decide +kernel
theorem dX9_isClosed_89 : decode cX9_isClosed 89 = .ok (.iaload, 1) := by decide +kernel
theorem dX9_isClosed_90 : decode cX9_isClosed 90 = .ok (.aload_n 0, 1) := by decide +kernel
theorem dX9_isClosed_91 : decode cX9_isClosed 91 = .ok (.getfield 85, 3) := by decide +kernel
theorem dX9_isClosed_94 : decode cX9_isClosed 94 = .ok (.iload 6, 2) := by decide +kernel
theorem dX9_isClosed_96 : decode cX9_isClosed 96 = .ok (.iaload, 1) := by decide +kernel
theorem dX9_isClosed_97 : decode cX9_isClosed 97 = .ok (.if_icmp .gt 28, 3) := by decide +kernel
theorem dX9_isClosed_100 : decode cX9_isClosed 100 = .ok (.iload 4, 2) := by decide +kernel
theorem dX9_isClosed_102 : decode cX9_isClosed 102 = .ok (.aload_n 0, 1) := by decide +kernel
theorem dX9_isClosed_103 : decode cX9_isClosed 103 = .ok (.getfield 82, 3) := by decide +kernel
theorem dX9_isClosed_106 : decode cX9_isClosed 106 = .ok (.iload 6, 2) := by decide +kernel
theorem dX9_isClosed_108 : decode cX9_isClosed 108 = .ok (.iaload, 1) := by decide +kernel
theorem dX9_isClosed_109 : decode cX9_isClosed 109 = .ok (.aload_n 0, 1) := by decide +kernel
theorem dX9_isClosed_110 : decode cX9_isClosed 110 = .ok (.getfield 85, 3) := by decide +kernel
theorem dX9_isClosed_113 : decode cX9_isClosed 113 = .ok (.iload 6, 2) := by decide +kernel
theorem dX9_isClosed_115 : decode cX9_isClosed 115 = .ok (.iaload, 1) := by decide +kernel
theorem dX9_isClosed_116 : decode cX9_isClosed 116 = .ok (.invokestatic 109, 3) := by decide +kernel
theorem dX9_isClosed_119 : decode cX9_isClosed 119 = .ok (.ifCond .eq 34, 3) := by decide +kernel
theorem dX9_isClosed_122 : decode cX9_isClosed 122 = .ok (.goto 27, 3) := by decide +kernel
theorem dX9_isClosed_125 : decode cX9_isClosed 125 = .ok (.iload 4, 2) := by decide +kernel
theorem dX9_isClosed_127 : decode cX9_isClosed 127 = .ok (.aload_n 0, 1) := by decide +kernel
theorem dX9_isClosed_128 : decode cX9_isClosed 128 = .ok (.getfield 82, 3) := by decide +kernel
theorem dX9_isClosed_131 : decode cX9_isClosed 131 = .ok (.iload 6, 2) := by decide +kernel
theorem dX9_isClosed_133 : decode cX9_isClosed 133 = .ok (.iaload, 1) := by decide +kernel
theorem dX9_isClosed_134 : decode cX9_isClosed 134 = .ok (.if_icmp .ge 15, 3) := by decide +kernel
theorem dX9_isClosed_137 : decode cX9_isClosed 137 = .ok (.iload 4, 2) := by decide +kernel
theorem dX9_isClosed_139 : decode cX9_isClosed 139 = .ok (.aload_n 0, 1) := by decide +kernel
theorem dX9_isClosed_140 : decode cX9_isClosed 140 = .ok (.getfield 85, 3) := by decide +kernel
theorem dX9_isClosed_143 : decode cX9_isClosed 143 = .ok (.iload 6, 2) := by decide +kernel
theorem dX9_isClosed_145 : decode cX9_isClosed 145 = .ok (.iaload, 1) := by decide +kernel
theorem dX9_isClosed_146 : decode cX9_isClosed 146 = .ok (.if_icmp .gt 7, 3) := by decide +kernel
theorem dX9_isClosed_149 : decode cX9_isClosed 149 = .ok (.iconst 1, 1) := by decide +kernel
theorem dX9_isClosed_150 : decode cX9_isClosed 150 = .ok (.goto 4, 3) := by decide +kernel
theorem dX9_isClosed_153 : decode cX9_isClosed 153 = .ok (.iconst 0, 1) := by decide +kernel
theorem dX9_isClosed_154 : decode cX9_isClosed 154 = .ok (.istore 5, 2) := by decide +kernel
theorem dX9_isClosed_156 : decode cX9_isClosed 156 = .ok (.iinc 6 1, 3) := by decide +kernel
theorem dX9_isClosed_159 : decode cX9_isClosed 159 = .ok (.goto (-137), 3) := by decide +kernel
theorem dX9_isClosed_162 : decode cX9_isClosed 162 = .ok (.iload 5, 2) := by decide +kernel
theorem dX9_isClosed_164 : decode cX9_isClosed 164 = .ok (.ireturn, 1) := by decide +kernel
theorem dX9_tells_0 : decode cX9_tells 0 = .ok (.iload_n 1, 1) := by decide +kernel
theorem dX9_tells_1 : decode cX9_tells 1 = .ok (.iconst 0, 1) := by decide +kernel
theorem dX9_tells_2 : decode cX9_tells 2 = .ok (.sipush 1000, 3) := by decide +kernel
theorem dX9_tells_5 : decode cX9_tells 5 = .ok (.invokestatic 109, 3) := by decide +kernel
theorem dX9_tells_8 : decode cX9_tells 8 = .ok (.ifCond .ne 5, 3) := by decide +kernel
theorem dX9_tells_11 : decode cX9_tells 11 = .ok (.iconst (-1), 1) := by decide +kernel
theorem dX9_tells_12 : decode cX9_tells 12 = .ok (.ireturn, 1) := by decide +kernel
theorem dX9_tells_13 : decode cX9_tells 13 = .ok (.iload_n 2, 1) := by decide +kernel
theorem dX9_tells_14 : decode cX9_tells 14 = .ok (.bipush 10, 2) := by decide +kernel
theorem dX9_tells_16 : decode cX9_tells 16 = .ok (.bipush 25, 2) := by decide +kernel
theorem dX9_tells_18 : decode cX9_tells 18 = .ok (.invokestatic 109, 3) := by decide +kernel
theorem dX9_tells_21 : decode cX9_tells 21 = .ok (.ifCond .eq 16, 3) := by decide +kernel
theorem dX9_tells_24 : decode cX9_tells 24 = .ok (.aload_n 0, 1) := by decide +kernel
theorem dX9_tells_25 : decode cX9_tells 25 = .ok (.iload_n 1, 1) := by decide +kernel
theorem dX9_tells_26 : decode cX9_tells 26 = .ok (.iload_n 2, 1) := by decide +kernel
theorem dX9_tells_27 : decode cX9_tells 27 = .ok (.bipush 10, 2) := by decide +kernel
theorem dX9_tells_29 : decode cX9_tells 29 = .ok (.isub, 1) := by decide +kernel
theorem dX9_tells_30 : decode cX9_tells 30 = .ok (.invokevirtual 201, 3) := by decide +kernel
theorem dX9_tells_33 : decode cX9_tells 33 = .ok (.invokestatic 205, 3) := by decide +kernel
theorem dX9_tells_36 : decode cX9_tells 36 = .ok (.ireturn, 1) := by decide +kernel
theorem dX9_tells_37 : decode cX9_tells 37 = .ok (.iload_n 2, 1) := by decide +kernel
theorem dX9_tells_38 : decode cX9_tells 38 = .ok (.ifCond .ne 15, 3) := by decide +kernel
theorem dX9_tells_41 : decode cX9_tells 41 = .ok (.aload_n 0, 1) := by decide +kernel
theorem dX9_tells_42 : decode cX9_tells 42 = .ok (.iload_n 1, 1) := by decide +kernel
theorem dX9_tells_43 : decode cX9_tells 43 = .ok (.iconst 0, 1) := by decide +kernel
theorem dX9_tells_44 : decode cX9_tells 44 = .ok (.sipush 550, 3) := by decide +kernel
theorem dX9_tells_47 : decode cX9_tells 47 = .ok (.invokevirtual 209, 3) := by decide +kernel
theorem dX9_tells_50 : decode cX9_tells 50 = .ok (.goto 32, 3) := by decide +kernel
theorem dX9_tells_53 : decode cX9_tells 53 = .ok (.iload_n 2, 1) := by decide +kernel
theorem dX9_tells_54 : decode cX9_tells 54 = .ok (.iconst 1, 1) := by decide +kernel
theorem dX9_tells_55 : decode cX9_tells 55 = .ok (.if_icmp .ne 13, 3) := by decide +kernel
theorem dX9_tells_58 : decode cX9_tells 58 = .ok (.aload_n 0, 1) := by decide +kernel
theorem dX9_tells_59 : decode cX9_tells 59 = .ok (.iload_n 1, 1) := by decide +kernel
theorem dX9_tells_60 : decode cX9_tells 60 = .ok (.iconst 1, 1) := by decide +kernel
theorem dX9_tells_61 : decode cX9_tells 61 = .ok (.iconst 0, 1) := by decide +kernel
theorem dX9_tells_62 : decode cX9_tells 62 = .ok (.invokevirtual 209, 3) := by decide +kernel
theorem dX9_tells_65 : decode cX9_tells 65 = .ok (.goto 17, 3) := by decide +kernel
theorem dX9_tells_68 : decode cX9_tells 68 = .ok (.iload_n 2, 1) := by decide +kernel
theorem dX9_tells_69 : decode cX9_tells 69 = .ok (.iconst 2, 1) := by decide +kernel
theorem dX9_tells_70 : decode cX9_tells 70 = .ok (.if_icmp .ne 11, 3) := by decide +kernel
theorem dX9_tells_73 : decode cX9_tells 73 = .ok (.aload_n 0, 1) := by decide +kernel
theorem dX9_tells_74 : decode cX9_tells 74 = .ok (.iload_n 1, 1) := by decide +kernel
theorem dX9_tells_75 : decode cX9_tells 75 = .ok (.invokevirtual 197, 3) := by decide +kernel
theorem dX9_tells_78 : decode cX9_tells 78 = .ok (.goto 4, 3) := by decide +kernel
theorem dX9_tells_81 : decode cX9_tells 81 = .ok (.iconst (-1), 1) := by decide +kernel
theorem dX9_tells_82 : decode cX9_tells 82 = .ok (.ireturn, 1) := by decide +kernel
theorem dX9_depth_0 : decode cX9_depth 0 = .ok (.iload_n 1, 1) := by decide +kernel
theorem dX9_depth_1 : decode cX9_depth 1 = .ok (.invokestatic 213, 3) := by decide +kernel
theorem dX9_depth_4 : decode cX9_depth 4 = .ok (.ifCond .eq 23, 3) := by decide +kernel
theorem dX9_depth_7 : decode cX9_depth 7 = .ok (.iload_n 2, 1) := by decide +kernel
theorem dX9_depth_8 : decode cX9_depth 8 = .ok (.iconst 0, 1) := by decide +kernel
theorem dX9_depth_9 : decode cX9_depth 9 = .ok (.sipush 3000, 3) := by decide +kernel
theorem dX9_depth_12 : decode cX9_depth 12 = .ok (.invokestatic 109, 3) := by decide +kernel
theorem dX9_depth_15 : decode cX9_depth 15 = .ok (.ifCond .eq 12, 3) := by decide +kernel
theorem dX9_depth_18 : decode cX9_depth 18 = .ok (.aload_n 0, 1) := by decide +kernel
theorem dX9_depth_19 : decode cX9_depth 19 = .ok (.getfield 13, 3) := by decide +kernel
theorem dX9_depth_22 : decode cX9_depth 22 = .ok (.iload_n 1, 1) := by decide +kernel
theorem dX9_depth_23 : decode cX9_depth 23 = .ok (.iaload, 1) := by decide +kernel
theorem dX9_depth_24 : decode cX9_depth 24 = .ok (.ifCond .eq 5, 3) := by decide +kernel
theorem dX9_depth_27 : decode cX9_depth 27 = .ok (.iconst 0, 1) := by decide +kernel
theorem dX9_depth_28 : decode cX9_depth 28 = .ok (.ireturn, 1) := by decide +kernel
theorem dX9_depth_29 : decode cX9_depth 29 = .ok (.aload_n 0, 1) := by decide +kernel
theorem dX9_depth_30 : decode cX9_depth 30 = .ok (.getfield 7, 3) := by decide +kernel
theorem dX9_depth_33 : decode cX9_depth 33 = .ok (.iload_n 1, 1) := by decide +kernel
theorem dX9_depth_34 : decode cX9_depth 34 = .ok (.iload_n 2, 1) := by decide +kernel
theorem dX9_depth_35 : decode cX9_depth 35 = .ok (.iastore, 1) := by decide +kernel
theorem dX9_depth_36 : decode cX9_depth 36 = .ok (.iconst 1, 1) := by decide +kernel
theorem dX9_depth_37 : decode cX9_depth 37 = .ok (.ireturn, 1) := by decide +kernel
theorem dX9_mill_0 : decode cX9_mill 0 = .ok (.iload_n 1, 1) := by decide +kernel
theorem dX9_mill_1 : decode cX9_mill 1 = .ok (.invokestatic 213, 3) := by decide +kernel
theorem dX9_mill_4 : decode cX9_mill 4 = .ok (.ifCond .eq 13, 3) := by decide +kernel
theorem dX9_mill_7 : decode cX9_mill 7 = .ok (.iload_n 2, 1) := by decide +kernel
theorem dX9_mill_8 : decode cX9_mill 8 = .ok (.iconst 1, 1) := by decide +kernel
theorem dX9_mill_9 : decode cX9_mill 9 = .ok (.bipush 20, 2) := by decide +kernel
theorem dX9_mill_11 : decode cX9_mill 11 = .ok (.invokestatic 109, 3) := by decide +kernel
theorem dX9_mill_14 : decode cX9_mill 14 = .ok (.ifCond .ne 6, 3) := by decide +kernel
theorem dX9_mill_17 : decode cX9_mill 17 = .ok (.bipush (-2), 2) := by decide +kernel
theorem dX9_mill_19 : decode cX9_mill 19 = .ok (.ireturn, 1) := by decide +kernel
theorem dX9_mill_20 : decode cX9_mill 20 = .ok (.aload_n 0, 1) := by decide +kernel
theorem dX9_mill_21 : decode cX9_mill 21 = .ok (.getfield 13, 3) := by decide +kernel
theorem dX9_mill_24 : decode cX9_mill 24 = .ok (.iload_n 1, 1) := by decide +kernel
theorem dX9_mill_25 : decode cX9_mill 25 = .ok (.iaload, 1) := by decide +kernel
theorem dX9_mill_26 : decode cX9_mill 26 = .ok (.ifCond .eq 6, 3) := by decide +kernel
theorem dX9_mill_29 : decode cX9_mill 29 = .ok (.bipush (-3), 2) := by decide +kernel
theorem dX9_mill_31 : decode cX9_mill 31 = .ok (.ireturn, 1) := by decide +kernel
theorem dX9_mill_32 : decode cX9_mill 32 = .ok (.aload_n 0, 1) := by decide +kernel
theorem dX9_mill_33 : decode cX9_mill 33 = .ok (.aload_n 0, 1) := by decide +kernel
theorem dX9_mill_34 : decode cX9_mill 34 = .ok (.getfield 194, 3) := by decide +kernel
theorem dX9_mill_37 : decode cX9_mill 37 = .ok (.iload_n 1, 1) := by decide +kernel
theorem dX9_mill_38 : decode cX9_mill 38 = .ok (.invokevirtual 201, 3) := by decide +kernel
theorem dX9_mill_41 : decode cX9_mill 41 = .ok (.ifCond .eq 6, 3) := by decide +kernel
theorem dX9_mill_44 : decode cX9_mill 44 = .ok (.bipush (-4), 2) := by decide +kernel
theorem dX9_mill_46 : decode cX9_mill 46 = .ok (.ireturn, 1) := by decide +kernel
theorem dX9_mill_47 : decode cX9_mill 47 = .ok (.aload_n 0, 1) := by decide +kernel
theorem dX9_mill_48 : decode cX9_mill 48 = .ok (.getfield 7, 3) := by decide +kernel
theorem dX9_mill_51 : decode cX9_mill 51 = .ok (.iload_n 1, 1) := by decide +kernel
theorem dX9_mill_52 : decode cX9_mill 52 = .ok (.iaload, 1) := by decide +kernel
theorem dX9_mill_53 : decode cX9_mill 53 = .ok (.iload_n 2, 1) := by decide +kernel
theorem dX9_mill_54 : decode cX9_mill 54 = .ok (.isub, 1) := by decide +kernel
theorem dX9_mill_55 : decode cX9_mill 55 = .ok (.aload_n 0, 1) := by decide +kernel
theorem dX9_mill_56 : decode cX9_mill 56 = .ok (.aload_n 0, 1) := by decide +kernel
theorem dX9_mill_57 : decode cX9_mill 57 = .ok (.getfield 194, 3) := by decide +kernel
theorem dX9_mill_60 : decode cX9_mill 60 = .ok (.iconst 1, 1) := by decide +kernel
theorem dX9_mill_61 : decode cX9_mill 61 = .ok (.iconst 0, 1) := by decide +kernel
theorem dX9_mill_62 : decode cX9_mill 62 = .ok (.invokevirtual 209, 3) := by decide +kernel
theorem dX9_mill_65 : decode cX9_mill 65 = .ok (.if_icmp .ge 6, 3) := by decide +kernel
theorem dX9_mill_68 : decode cX9_mill 68 = .ok (.bipush (-5), 2) := by decide +kernel
theorem dX9_mill_70 : decode cX9_mill 70 = .ok (.ireturn, 1) := by decide +kernel
theorem dX9_mill_71 : decode cX9_mill 71 = .ok (.aload_n 0, 1) := by decide +kernel
theorem dX9_mill_72 : decode cX9_mill 72 = .ok (.getfield 7, 3) := by decide +kernel
theorem dX9_mill_75 : decode cX9_mill 75 = .ok (.iload_n 1, 1) := by decide +kernel
theorem dX9_mill_76 : decode cX9_mill 76 = .ok (.dup2, 1) := by decide +kernel
theorem dX9_mill_77 : decode cX9_mill 77 = .ok (.iaload, 1) := by decide +kernel
theorem dX9_mill_78 : decode cX9_mill 78 = .ok (.iload_n 2, 1) := by decide +kernel
theorem dX9_mill_79 : decode cX9_mill 79 = .ok (.isub, 1) := by decide +kernel
theorem dX9_mill_80 : decode cX9_mill 80 = .ok (.iastore, 1) := by decide +kernel
theorem dX9_mill_81 : decode cX9_mill 81 = .ok (.aload_n 0, 1) := by decide +kernel
theorem dX9_mill_82 : decode cX9_mill 82 = .ok (.getfield 13, 3) := by decide +kernel
theorem dX9_mill_85 : decode cX9_mill 85 = .ok (.iload_n 1, 1) := by decide +kernel
theorem dX9_mill_86 : decode cX9_mill 86 = .ok (.iconst 1, 1) := by decide +kernel
theorem dX9_mill_87 : decode cX9_mill 87 = .ok (.iastore, 1) := by decide +kernel
theorem dX9_mill_88 : decode cX9_mill 88 = .ok (.aload_n 0, 1) := by decide +kernel
theorem dX9_mill_89 : decode cX9_mill 89 = .ok (.getfield 16, 3) := by decide +kernel
theorem dX9_mill_92 : decode cX9_mill 92 = .ok (.iload_n 1, 1) := by decide +kernel
theorem dX9_mill_93 : decode cX9_mill 93 = .ok (.bipush 10, 2) := by decide +kernel
theorem dX9_mill_95 : decode cX9_mill 95 = .ok (.iload_n 2, 1) := by decide +kernel
theorem dX9_mill_96 : decode cX9_mill 96 = .ok (.imul, 1) := by decide +kernel
theorem dX9_mill_97 : decode cX9_mill 97 = .ok (.iastore, 1) := by decide +kernel
theorem dX9_mill_98 : decode cX9_mill 98 = .ok (.aload_n 0, 1) := by decide +kernel
theorem dX9_mill_99 : decode cX9_mill 99 = .ok (.getfield 19, 3) := by decide +kernel
theorem dX9_mill_102 : decode cX9_mill 102 = .ok (.iload_n 1, 1) := by decide +kernel
theorem dX9_mill_103 : decode cX9_mill 103 = .ok (.sipush 800, 3) := by decide +kernel
theorem dX9_mill_106 : decode cX9_mill 106 = .ok (.iastore, 1) := by decide +kernel
theorem dX9_mill_107 : decode cX9_mill 107 = .ok (.iconst 0, 1) := by decide +kernel
theorem dX9_mill_108 : decode cX9_mill 108 = .ok (.ireturn, 1) := by decide +kernel
theorem dX9_ridge_0 : decode cX9_ridge 0 = .ok (.iload_n 1, 1) := by decide +kernel
theorem dX9_ridge_1 : decode cX9_ridge 1 = .ok (.invokestatic 213, 3) := by decide +kernel
theorem dX9_ridge_4 : decode cX9_ridge 4 = .ok (.ifCond .eq 13, 3) := by decide +kernel
theorem dX9_ridge_7 : decode cX9_ridge 7 = .ok (.aload_n 0, 1) := by decide +kernel
theorem dX9_ridge_8 : decode cX9_ridge 8 = .ok (.getfield 13, 3) := by decide +kernel
theorem dX9_ridge_11 : decode cX9_ridge 11 = .ok (.iload_n 1, 1) := by decide +kernel
theorem dX9_ridge_12 : decode cX9_ridge 12 = .ok (.iaload, 1) := by decide +kernel
theorem dX9_ridge_13 : decode cX9_ridge 13 = .ok (.iconst 1, 1) := by decide +kernel
theorem dX9_ridge_14 : decode cX9_ridge 14 = .ok (.if_icmp .eq 5, 3) := by decide +kernel
theorem dX9_ridge_17 : decode cX9_ridge 17 = .ok (.iconst 0, 1) := by decide +kernel
theorem dX9_ridge_18 : decode cX9_ridge 18 = .ok (.ireturn, 1) := by decide +kernel
theorem dX9_ridge_19 : decode cX9_ridge 19 = .ok (.aload_n 0, 1) := by decide +kernel
theorem dX9_ridge_20 : decode cX9_ridge 20 = .ok (.getfield 13, 3) := by decide +kernel
theorem dX9_ridge_23 : decode cX9_ridge 23 = .ok (.iload_n 1, 1) := by decide +kernel
theorem dX9_ridge_24 : decode cX9_ridge 24 = .ok (.iconst 2, 1) := by decide +kernel
theorem dX9_ridge_25 : decode cX9_ridge 25 = .ok (.iastore, 1) := by decide +kernel
theorem dX9_ridge_26 : decode cX9_ridge 26 = .ok (.iconst 1, 1) := by decide +kernel
theorem dX9_ridge_27 : decode cX9_ridge 27 = .ok (.ireturn, 1) := by decide +kernel
theorem dX9_probe_0 : decode cX9_probe 0 = .ok (.iload_n 1, 1) := by decide +kernel
theorem dX9_probe_1 : decode cX9_probe 1 = .ok (.invokestatic 213, 3) := by decide +kernel
theorem dX9_probe_4 : decode cX9_probe 4 = .ok (.ifCond .eq 34, 3) := by decide +kernel
theorem dX9_probe_7 : decode cX9_probe 7 = .ok (.aload_n 0, 1) := by decide +kernel
theorem dX9_probe_8 : decode cX9_probe 8 = .ok (.getfield 13, 3) := by decide +kernel
theorem dX9_probe_11 : decode cX9_probe 11 = .ok (.iload_n 1, 1) := by decide +kernel
theorem dX9_probe_12 : decode cX9_probe 12 = .ok (.iaload, 1) := by decide +kernel
theorem dX9_probe_13 : decode cX9_probe 13 = .ok (.ifCond .eq 25, 3) := by decide +kernel
theorem dX9_probe_16 : decode cX9_probe 16 = .ok (.iload_n 2, 1) := by decide +kernel
theorem dX9_probe_17 : decode cX9_probe 17 = .ok (.iconst 0, 1) := by decide +kernel
theorem dX9_probe_18 : decode cX9_probe 18 = .ok (.sipush 900, 3) := by decide +kernel
theorem dX9_probe_21 : decode cX9_probe 21 = .ok (.invokestatic 109, 3) := by decide +kernel
theorem dX9_probe_24 : decode cX9_probe 24 = .ok (.ifCond .eq 14, 3) := by decide +kernel
theorem dX9_probe_27 : decode cX9_probe 27 = .ok (.aload_n 0, 1) := by decide +kernel
theorem dX9_probe_28 : decode cX9_probe 28 = .ok (.getfield 22, 3) := by decide +kernel
theorem dX9_probe_31 : decode cX9_probe 31 = .ok (.iload_n 1, 1) := by decide +kernel
theorem dX9_probe_32 : decode cX9_probe 32 = .ok (.iaload, 1) := by decide +kernel
theorem dX9_probe_33 : decode cX9_probe 33 = .ok (.bipush 8, 2) := by decide +kernel
theorem dX9_probe_35 : decode cX9_probe 35 = .ok (.if_icmp .ne 5, 3) := by decide +kernel
theorem dX9_probe_38 : decode cX9_probe 38 = .ok (.iconst (-1), 1) := by decide +kernel
theorem dX9_probe_39 : decode cX9_probe 39 = .ok (.ireturn, 1) := by decide +kernel
theorem dX9_probe_40 : decode cX9_probe 40 = .ok (.aload_n 0, 1) := by decide +kernel
theorem dX9_probe_41 : decode cX9_probe 41 = .ok (.getfield 25, 3) := by decide +kernel
theorem dX9_probe_44 : decode cX9_probe 44 = .ok (.iload_n 1, 1) := by decide +kernel
theorem dX9_probe_45 : decode cX9_probe 45 = .ok (.aload_n 0, 1) := by decide +kernel
theorem dX9_probe_46 : decode cX9_probe 46 = .ok (.getfield 22, 3) := by decide +kernel
theorem dX9_probe_49 : decode cX9_probe 49 = .ok (.iload_n 1, 1) := by decide +kernel
theorem dX9_probe_50 : decode cX9_probe 50 = .ok (.iaload, 1) := by decide +kernel
theorem dX9_probe_51 : decode cX9_probe 51 = .ok (.ifCond .ne 7, 3) := by decide +kernel
theorem dX9_probe_54 : decode cX9_probe 54 = .ok (.iload_n 2, 1) := by decide +kernel
theorem dX9_probe_55 : decode cX9_probe 55 = .ok (.goto 13, 3) := by decide +kernel
theorem dX9_probe_58 : decode cX9_probe 58 = .ok (.aload_n 0, 1) := by decide +kernel
theorem dX9_probe_59 : decode cX9_probe 59 = .ok (.getfield 25, 3) := by decide +kernel
theorem dX9_probe_62 : decode cX9_probe 62 = .ok (.iload_n 1, 1) := by decide +kernel
theorem dX9_probe_63 : decode cX9_probe 63 = .ok (.iaload, 1) := by decide +kernel
theorem dX9_probe_64 : decode cX9_probe 64 = .ok (.iload_n 2, 1) := by decide +kernel
theorem dX9_probe_65 : decode cX9_probe 65 = .ok (.invokestatic 216, 3) := by decide +kernel
theorem dX9_probe_68 : decode cX9_probe 68 = .ok (.iastore, 1) := by decide +kernel
theorem dX9_probe_69 : decode cX9_probe 69 = .ok (.aload_n 0, 1) := by decide +kernel
theorem dX9_probe_70 : decode cX9_probe 70 = .ok (.getfield 22, 3) := by decide +kernel
theorem dX9_probe_73 : decode cX9_probe 73 = .ok (.iload_n 1, 1) := by decide +kernel
theorem dX9_probe_74 : decode cX9_probe 74 = .ok (.dup2, 1) := by decide +kernel
theorem dX9_probe_75 : decode cX9_probe 75 = .ok (.iaload, 1) := by decide +kernel
theorem dX9_probe_76 : decode cX9_probe 76 = .ok (.iconst 1, 1) := by decide +kernel
theorem dX9_probe_77 : decode cX9_probe 77 = .ok (.iadd, 1) := by decide +kernel
theorem dX9_probe_78 : decode cX9_probe 78 = .ok (.iastore, 1) := by decide +kernel
theorem dX9_probe_79 : decode cX9_probe 79 = .ok (.aload_n 0, 1) := by decide +kernel
theorem dX9_probe_80 : decode cX9_probe 80 = .ok (.getfield 22, 3) := by decide +kernel
theorem dX9_probe_83 : decode cX9_probe 83 = .ok (.iload_n 1, 1) := by decide +kernel
theorem dX9_probe_84 : decode cX9_probe 84 = .ok (.iaload, 1) := by decide +kernel
theorem dX9_probe_85 : decode cX9_probe 85 = .ok (.ireturn, 1) := by decide +kernel
theorem dX9_stack_0 : decode cX9_stack 0 = .ok (.aload_n 0, 1) := by decide +kernel
theorem dX9_stack_1 : decode cX9_stack 1 = .ok (.getfield 113, 3) := by decide +kernel
theorem dX9_stack_4 : decode cX9_stack 4 = .ok (.bipush 10, 2) := by decide +kernel
theorem dX9_stack_6 : decode cX9_stack 6 = .ok (.if_icmp .ne 5, 3) := by decide +kernel
theorem dX9_stack_9 : decode cX9_stack 9 = .ok (.iconst (-1), 1) := by decide +kernel
theorem dX9_stack_10 : decode cX9_stack 10 = .ok (.ireturn, 1) := by decide +kernel
theorem dX9_stack_11 : decode cX9_stack 11 = .ok (.aload_n 0, 1) := by decide +kernel
theorem dX9_stack_12 : decode cX9_stack 12 = .ok (.getfield 37, 3) := by decide +kernel
theorem dX9_stack_15 : decode cX9_stack 15 = .ok (.aload_n 0, 1) := by decide +kernel
theorem dX9_stack_16 : decode cX9_stack 16 = .ok (.getfield 113, 3) := by decide +kernel
theorem dX9_stack_19 : decode cX9_stack 19 = .ok (.bipush 10, 2) := by decide +kernel
theorem dX9_stack_21 : decode cX9_stack 21 = .ok (.iastore, 1) := by decide +kernel
theorem dX9_stack_22 : decode cX9_stack 22 = .ok (.aload_n 0, 1) := by decide +kernel
theorem dX9_stack_23 : decode cX9_stack 23 = .ok (.getfield 40, 3) := by decide +kernel
theorem dX9_stack_26 : decode cX9_stack 26 = .ok (.aload_n 0, 1) := by decide +kernel
theorem dX9_stack_27 : decode cX9_stack 27 = .ok (.getfield 113, 3) := by decide +kernel
theorem dX9_stack_30 : decode cX9_stack 30 = .ok (.iconst (-1), 1) := by decide +kernel
theorem dX9_stack_31 : decode cX9_stack 31 = .ok (.iastore, 1) := by decide +kernel
theorem dX9_stack_32 : decode cX9_stack 32 = .ok (.aload_n 0, 1) := by decide +kernel
theorem dX9_stack_33 : decode cX9_stack 33 = .ok (.getfield 43, 3) := by decide +kernel
theorem dX9_stack_36 : decode cX9_stack 36 = .ok (.aload_n 0, 1) := by decide +kernel
theorem dX9_stack_37 : decode cX9_stack 37 = .ok (.getfield 113, 3) := by decide +kernel
theorem dX9_stack_40 : decode cX9_stack 40 = .ok (.aload_n 0, 1) := by decide +kernel
theorem dX9_stack_41 : decode cX9_stack 41 = .ok (.getfield 194, 3) := by decide +kernel
theorem dX9_stack_44 : decode cX9_stack 44 = .ok (.iastore, 1) := by decide +kernel
theorem dX9_stack_45 : decode cX9_stack 45 = .ok (.aload_n 0, 1) := by decide +kernel
theorem dX9_stack_46 : decode cX9_stack 46 = .ok (.getfield 46, 3) := by decide +kernel
theorem dX9_stack_49 : decode cX9_stack 49 = .ok (.aload_n 0, 1) := by decide +kernel
theorem dX9_stack_50 : decode cX9_stack 50 = .ok (.getfield 113, 3) := by decide +kernel
theorem dX9_stack_53 : decode cX9_stack 53 = .ok (.iconst (-1), 1) := by decide +kernel
theorem dX9_stack_54 : decode cX9_stack 54 = .ok (.iastore, 1) := by decide +kernel
theorem dX9_stack_55 : decode cX9_stack 55 = .ok (.aload_n 0, 1) := by decide +kernel
theorem dX9_stack_56 : decode cX9_stack 56 = .ok (.dup, 1) := by decide +kernel
theorem dX9_stack_57 : decode cX9_stack 57 = .ok (.getfield 113, 3) := by decide +kernel
theorem dX9_stack_60 : decode cX9_stack 60 = .ok (.iconst 1, 1) := by decide +kernel
theorem dX9_stack_61 : decode cX9_stack 61 = .ok (.iadd, 1) := by decide +kernel
theorem dX9_stack_62 : decode cX9_stack 62 = .ok (.putfield 113, 3) := by decide +kernel
theorem dX9_stack_65 : decode cX9_stack 65 = .ok (.aload_n 0, 1) := by decide +kernel
theorem dX9_stack_66 : decode cX9_stack 66 = .ok (.getfield 113, 3) := by decide +kernel
theorem dX9_stack_69 : decode cX9_stack 69 = .ok (.iconst 1, 1) := by decide +kernel
theorem dX9_stack_70 : decode cX9_stack 70 = .ok (.isub, 1) := by decide +kernel
theorem dX9_stack_71 : decode cX9_stack 71 = .ok (.ireturn, 1) := by decide +kernel
theorem dX9_bars_0 : decode cX9_bars 0 = .ok (.iload_n 1, 1) := by decide +kernel
theorem dX9_bars_1 : decode cX9_bars 1 = .ok (.invokestatic 213, 3) := by decide +kernel
theorem dX9_bars_4 : decode cX9_bars 4 = .ok (.ifCond .eq 12, 3) := by decide +kernel
theorem dX9_bars_7 : decode cX9_bars 7 = .ok (.aload_n 0, 1) := by decide +kernel
theorem dX9_bars_8 : decode cX9_bars 8 = .ok (.getfield 13, 3) := by decide +kernel
theorem dX9_bars_11 : decode cX9_bars 11 = .ok (.iload_n 1, 1) := by decide +kernel
theorem dX9_bars_12 : decode cX9_bars 12 = .ok (.iaload, 1) := by decide +kernel
theorem dX9_bars_13 : decode cX9_bars 13 = .ok (.ifCond .ne 5, 3) := by decide +kernel
theorem dX9_bars_16 : decode cX9_bars 16 = .ok (.iconst 1, 1) := by decide +kernel
theorem dX9_bars_17 : decode cX9_bars 17 = .ok (.ireturn, 1) := by decide +kernel
theorem dX9_bars_18 : decode cX9_bars 18 = .ok (.aload_n 0, 1) := by decide +kernel
theorem dX9_bars_19 : decode cX9_bars 19 = .ok (.aload_n 0, 1) := by decide +kernel
theorem dX9_bars_20 : decode cX9_bars 20 = .ok (.getfield 194, 3) := by decide +kernel
theorem dX9_bars_23 : decode cX9_bars 23 = .ok (.iload_n 1, 1) := by decide +kernel
theorem dX9_bars_24 : decode cX9_bars 24 = .ok (.invokevirtual 201, 3) := by decide +kernel
theorem dX9_bars_27 : decode cX9_bars 27 = .ok (.ifCond .eq 5, 3) := by decide +kernel
theorem dX9_bars_30 : decode cX9_bars 30 = .ok (.iconst 2, 1) := by decide +kernel
theorem dX9_bars_31 : decode cX9_bars 31 = .ok (.ireturn, 1) := by decide +kernel
theorem dX9_bars_32 : decode cX9_bars 32 = .ok (.aload_n 0, 1) := by decide +kernel
theorem dX9_bars_33 : decode cX9_bars 33 = .ok (.getfield 222, 3) := by decide +kernel
theorem dX9_bars_36 : decode cX9_bars 36 = .ok (.iload_n 1, 1) := by decide +kernel
theorem dX9_bars_37 : decode cX9_bars 37 = .ok (.isub, 1) := by decide +kernel
theorem dX9_bars_38 : decode cX9_bars 38 = .ok (.invokestatic 225, 3) := by decide +kernel
theorem dX9_bars_41 : decode cX9_bars 41 = .ok (.iconst 1, 1) := by decide +kernel
theorem dX9_bars_42 : decode cX9_bars 42 = .ok (.if_icmp .le 5, 3) := by decide +kernel
theorem dX9_bars_45 : decode cX9_bars 45 = .ok (.iconst 3, 1) := by decide +kernel
theorem dX9_bars_46 : decode cX9_bars 46 = .ok (.ireturn, 1) := by decide +kernel
theorem dX9_bars_47 : decode cX9_bars 47 = .ok (.aload_n 0, 1) := by decide +kernel
theorem dX9_bars_48 : decode cX9_bars 48 = .ok (.getfield 22, 3) := by decide +kernel
theorem dX9_bars_51 : decode cX9_bars 51 = .ok (.iload_n 1, 1) := by decide +kernel
theorem dX9_bars_52 : decode cX9_bars 52 = .ok (.iaload, 1) := by decide +kernel
theorem dX9_bars_53 : decode cX9_bars 53 = .ok (.iconst 3, 1) := by decide +kernel
theorem dX9_bars_54 : decode cX9_bars 54 = .ok (.if_icmp .ge 5, 3) := by decide +kernel
theorem dX9_bars_57 : decode cX9_bars 57 = .ok (.iconst 4, 1) := by decide +kernel
theorem dX9_bars_58 : decode cX9_bars 58 = .ok (.ireturn, 1) := by decide +kernel
theorem dX9_bars_59 : decode cX9_bars 59 = .ok (.aload_n 0, 1) := by decide +kernel
theorem dX9_bars_60 : decode cX9_bars 60 = .ok (.getfield 25, 3) := by decide +kernel
theorem dX9_bars_63 : decode cX9_bars 63 = .ok (.iload_n 1, 1) := by decide +kernel
theorem dX9_bars_64 : decode cX9_bars 64 = .ok (.iaload, 1) := by decide +kernel
theorem dX9_bars_65 : decode cX9_bars 65 = .ok (.aload_n 0, 1) := by decide +kernel
theorem dX9_bars_66 : decode cX9_bars 66 = .ok (.aload_n 0, 1) := by decide +kernel
theorem dX9_bars_67 : decode cX9_bars 67 = .ok (.getfield 194, 3) := by decide +kernel
theorem dX9_bars_70 : decode cX9_bars 70 = .ok (.iconst 0, 1) := by decide +kernel
theorem dX9_bars_71 : decode cX9_bars 71 = .ok (.sipush 550, 3) := by decide +kernel
theorem dX9_bars_74 : decode cX9_bars 74 = .ok (.invokevirtual 209, 3) := by decide +kernel
theorem dX9_bars_77 : decode cX9_bars 77 = .ok (.if_icmp .le 7, 3) := by decide +kernel
theorem dX9_bars_80 : decode cX9_bars 80 = .ok (.iconst 5, 1) := by decide +kernel
theorem dX9_bars_81 : decode cX9_bars 81 = .ok (.goto 4, 3) := by decide +kernel
theorem dX9_bars_84 : decode cX9_bars 84 = .ok (.iconst 0, 1) := by decide +kernel
theorem dX9_bars_85 : decode cX9_bars 85 = .ok (.ireturn, 1) := by decide +kernel
theorem dX9_burns_0 : decode cX9_burns 0 = .ok (.aload_n 0, 1) := by decide +kernel
theorem dX9_burns_1 : decode cX9_burns 1 = .ok (.getfield 46, 3) := by decide +kernel
theorem dX9_burns_4 : decode cX9_burns 4 = .ok (.iload_n 1, 1) := by decide +kernel
theorem dX9_burns_5 : decode cX9_burns 5 = .ok (.iaload, 1) := by decide +kernel
theorem dX9_burns_6 : decode cX9_burns 6 = .ok (.iconst (-1), 1) := by decide +kernel
theorem dX9_burns_7 : decode cX9_burns 7 = .ok (.if_icmp .eq 7, 3) := by decide +kernel
theorem dX9_burns_10 : decode cX9_burns 10 = .ok (.iconst 1, 1) := by decide +kernel
theorem dX9_burns_11 : decode cX9_burns 11 = .ok (.goto 4, 3) := by decide +kernel
theorem dX9_burns_14 : decode cX9_burns 14 = .ok (.iconst 0, 1) := by decide +kernel
theorem dX9_burns_15 : decode cX9_burns 15 = .ok (.ireturn, 1) := by decide +kernel
theorem dX9_gather_0 : decode cX9_gather 0 = .ok (.aload_n 0, 1) := by decide +kernel
theorem dX9_gather_1 : decode cX9_gather 1 = .ok (.iload_n 1, 1) := by decide +kernel
theorem dX9_gather_2 : decode cX9_gather 2 = .ok (.invokevirtual 228, 3) := by decide +kernel
theorem dX9_gather_5 : decode cX9_gather 5 = .ok (.ifCond .ne 28, 3) := by decide +kernel
theorem dX9_gather_8 : decode cX9_gather 8 = .ok (.aload_n 0, 1) := by decide +kernel
theorem dX9_gather_9 : decode cX9_gather 9 = .ok (.iload_n 2, 1) := by decide +kernel
theorem dX9_gather_10 : decode cX9_gather 10 = .ok (.invokevirtual 231, 3) := by decide +kernel
theorem dX9_gather_13 : decode cX9_gather 13 = .ok (.ifCond .eq 20, 3) := by decide +kernel
theorem dX9_gather_16 : decode cX9_gather 16 = .ok (.aload_n 0, 1) := by decide +kernel
theorem dX9_gather_17 : decode cX9_gather 17 = .ok (.iload_n 2, 1) := by decide +kernel
theorem dX9_gather_18 : decode cX9_gather 18 = .ok (.invokevirtual 234, 3) := by decide +kernel
theorem dX9_gather_21 : decode cX9_gather 21 = .ok (.ifCond .ne 12, 3) := by decide +kernel
theorem dX9_gather_24 : decode cX9_gather 24 = .ok (.aload_n 0, 1) := by decide +kernel
theorem dX9_gather_25 : decode cX9_gather 25 = .ok (.getfield 52, 3) := by decide +kernel
theorem dX9_gather_28 : decode cX9_gather 28 = .ok (.iload_n 2, 1) := by decide +kernel
theorem dX9_gather_29 : decode cX9_gather 29 = .ok (.baload, 1) := by decide +kernel
theorem dX9_gather_30 : decode cX9_gather 30 = .ok (.ifCond .eq 5, 3) := by decide +kernel
theorem dX9_gather_33 : decode cX9_gather 33 = .ok (.iconst (-1), 1) := by decide +kernel
theorem dX9_gather_34 : decode cX9_gather 34 = .ok (.ireturn, 1) := by decide +kernel
theorem dX9_gather_35 : decode cX9_gather 35 = .ok (.aload_n 0, 1) := by decide +kernel
theorem dX9_gather_36 : decode cX9_gather 36 = .ok (.getfield 16, 3) := by decide +kernel
theorem dX9_gather_39 : decode cX9_gather 39 = .ok (.iload_n 1, 1) := by decide +kernel
theorem dX9_gather_40 : decode cX9_gather 40 = .ok (.iaload, 1) := by decide +kernel
theorem dX9_gather_41 : decode cX9_gather 41 = .ok (.istore_n 3, 1) := by decide +kernel
theorem dX9_gather_42 : decode cX9_gather 42 = .ok (.aload_n 0, 1) := by decide +kernel
theorem dX9_gather_43 : decode cX9_gather 43 = .ok (.getfield 34, 3) := by decide +kernel
theorem dX9_gather_46 : decode cX9_gather 46 = .ok (.iload_n 2, 1) := by decide +kernel
theorem dX9_gather_47 : decode cX9_gather 47 = .ok (.aload_n 0, 1) := by decide +kernel
theorem dX9_gather_48 : decode cX9_gather 48 = .ok (.getfield 31, 3) := by decide +kernel
theorem dX9_gather_51 : decode cX9_gather 51 = .ok (.iload_n 2, 1) := by decide +kernel
theorem dX9_gather_52 : decode cX9_gather 52 = .ok (.iaload, 1) := by decide +kernel
theorem dX9_gather_53 : decode cX9_gather 53 = .ok (.aload_n 0, 1) := by decide +kernel
theorem dX9_gather_54 : decode cX9_gather 54 = .ok (.getfield 34, 3) := by decide +kernel
theorem dX9_gather_57 : decode cX9_gather 57 = .ok (.iload_n 2, 1) := by decide +kernel
theorem dX9_gather_58 : decode cX9_gather 58 = .ok (.iaload, 1) := by decide +kernel
theorem dX9_gather_59 : decode cX9_gather 59 = .ok (.imul, 1) := by decide +kernel
theorem dX9_gather_60 : decode cX9_gather 60 = .ok (.iload_n 3, 1) := by decide +kernel
theorem dX9_gather_61 : decode cX9_gather 61 = .ok (.aload_n 0, 1) := by decide +kernel
theorem dX9_gather_62 : decode cX9_gather 62 = .ok (.getfield 19, 3) := by decide +kernel
theorem dX9_gather_65 : decode cX9_gather 65 = .ok (.iload_n 1, 1) := by decide +kernel
theorem dX9_gather_66 : decode cX9_gather 66 = .ok (.iaload, 1) := by decide +kernel
theorem dX9_gather_67 : decode cX9_gather 67 = .ok (.imul, 1) := by decide +kernel
theorem dX9_gather_68 : decode cX9_gather 68 = .ok (.iadd, 1) := by decide +kernel
theorem dX9_gather_69 : decode cX9_gather 69 = .ok (.aload_n 0, 1) := by decide +kernel
theorem dX9_gather_70 : decode cX9_gather 70 = .ok (.getfield 31, 3) := by decide +kernel
theorem dX9_gather_73 : decode cX9_gather 73 = .ok (.iload_n 2, 1) := by decide +kernel
theorem dX9_gather_74 : decode cX9_gather 74 = .ok (.iaload, 1) := by decide +kernel
theorem dX9_gather_75 : decode cX9_gather 75 = .ok (.iload_n 3, 1) := by decide +kernel
theorem dX9_gather_76 : decode cX9_gather 76 = .ok (.iadd, 1) := by decide +kernel
theorem dX9_gather_77 : decode cX9_gather 77 = .ok (.idiv, 1) := by decide +kernel
theorem dX9_gather_78 : decode cX9_gather 78 = .ok (.iastore, 1) := by decide +kernel
theorem dX9_gather_79 : decode cX9_gather 79 = .ok (.aload_n 0, 1) := by decide +kernel
theorem dX9_gather_80 : decode cX9_gather 80 = .ok (.getfield 31, 3) := by decide +kernel
theorem dX9_gather_83 : decode cX9_gather 83 = .ok (.iload_n 2, 1) := by decide +kernel
theorem dX9_gather_84 : decode cX9_gather 84 = .ok (.dup2, 1) := by decide +kernel
theorem dX9_gather_85 : decode cX9_gather 85 = .ok (.iaload, 1) := by decide +kernel
theorem dX9_gather_86 : decode cX9_gather 86 = .ok (.iload_n 3, 1) := by decide +kernel
theorem dX9_gather_87 : decode cX9_gather 87 = .ok (.iadd, 1) := by decide +kernel
theorem dX9_gather_88 : decode cX9_gather 88 = .ok (.iastore, 1) := by decide +kernel
theorem dX9_gather_89 : decode cX9_gather 89 = .ok (.aload_n 0, 1) := by decide +kernel
theorem dX9_gather_90 : decode cX9_gather 90 = .ok (.getfield 28, 3) := by decide +kernel
theorem dX9_gather_93 : decode cX9_gather 93 = .ok (.iload_n 1, 1) := by decide +kernel
theorem dX9_gather_94 : decode cX9_gather 94 = .ok (.dup2, 1) := by decide +kernel
theorem dX9_gather_95 : decode cX9_gather 95 = .ok (.iaload, 1) := by decide +kernel
theorem dX9_gather_96 : decode cX9_gather 96 = .ok (.iload_n 3, 1) := by decide +kernel
theorem dX9_gather_97 : decode cX9_gather 97 = .ok (.iadd, 1) := by decide +kernel
theorem dX9_gather_98 : decode cX9_gather 98 = .ok (.iastore, 1) := by decide +kernel
theorem dX9_gather_99 : decode cX9_gather 99 = .ok (.aload_n 0, 1) := by decide +kernel
theorem dX9_gather_100 : decode cX9_gather 100 = .ok (.getfield 13, 3) := by decide +kernel
theorem dX9_gather_103 : decode cX9_gather 103 = .ok (.iload_n 1, 1) := by decide +kernel
theorem dX9_gather_104 : decode cX9_gather 104 = .ok (.iconst 0, 1) := by decide +kernel
theorem dX9_gather_105 : decode cX9_gather 105 = .ok (.iastore, 1) := by decide +kernel
theorem dX9_gather_106 : decode cX9_gather 106 = .ok (.aload_n 0, 1) := by decide +kernel
theorem dX9_gather_107 : decode cX9_gather 107 = .ok (.getfield 16, 3) := by decide +kernel
theorem dX9_gather_110 : decode cX9_gather 110 = .ok (.iload_n 1, 1) := by decide +kernel
theorem dX9_gather_111 : decode cX9_gather 111 = .ok (.iconst 0, 1) := by decide +kernel
theorem dX9_gather_112 : decode cX9_gather 112 = .ok (.iastore, 1) := by decide +kernel
theorem dX9_gather_113 : decode cX9_gather 113 = .ok (.aload_n 0, 1) := by decide +kernel
theorem dX9_gather_114 : decode cX9_gather 114 = .ok (.getfield 19, 3) := by decide +kernel
theorem dX9_gather_117 : decode cX9_gather 117 = .ok (.iload_n 1, 1) := by decide +kernel
theorem dX9_gather_118 : decode cX9_gather 118 = .ok (.iconst 0, 1) := by decide +kernel
theorem dX9_gather_119 : decode cX9_gather 119 = .ok (.iastore, 1) := by decide +kernel
theorem dX9_gather_120 : decode cX9_gather 120 = .ok (.aload_n 0, 1) := by decide +kernel
theorem dX9_gather_121 : decode cX9_gather 121 = .ok (.getfield 22, 3) := by decide +kernel
theorem dX9_gather_124 : decode cX9_gather 124 = .ok (.iload_n 1, 1) := by decide +kernel
theorem dX9_gather_125 : decode cX9_gather 125 = .ok (.iconst 0, 1) := by decide +kernel
theorem dX9_gather_126 : decode cX9_gather 126 = .ok (.iastore, 1) := by decide +kernel
theorem dX9_gather_127 : decode cX9_gather 127 = .ok (.iload_n 3, 1) := by decide +kernel
theorem dX9_gather_128 : decode cX9_gather 128 = .ok (.ireturn, 1) := by decide +kernel
theorem dX9_track_0 : decode cX9_track 0 = .ok (.iload_n 1, 1) := by decide +kernel
theorem dX9_track_1 : decode cX9_track 1 = .ok (.invokestatic 213, 3) := by decide +kernel
theorem dX9_track_4 : decode cX9_track 4 = .ok (.ifCond .ne 5, 3) := by decide +kernel
theorem dX9_track_7 : decode cX9_track 7 = .ok (.iconst (-1), 1) := by decide +kernel
theorem dX9_track_8 : decode cX9_track 8 = .ok (.ireturn, 1) := by decide +kernel
theorem dX9_track_9 : decode cX9_track 9 = .ok (.iload_n 1, 1) := by decide +kernel
theorem dX9_track_10 : decode cX9_track 10 = .ok (.aload_n 0, 1) := by decide +kernel
theorem dX9_track_11 : decode cX9_track 11 = .ok (.getfield 222, 3) := by decide +kernel
theorem dX9_track_14 : decode cX9_track 14 = .ok (.isub, 1) := by decide +kernel
theorem dX9_track_15 : decode cX9_track 15 = .ok (.invokestatic 225, 3) := by decide +kernel
theorem dX9_track_18 : decode cX9_track 18 = .ok (.istore_n 2, 1) := by decide +kernel
theorem dX9_track_19 : decode cX9_track 19 = .ok (.aload_n 0, 1) := by decide +kernel
theorem dX9_track_20 : decode cX9_track 20 = .ok (.iload_n 1, 1) := by decide +kernel
theorem dX9_track_21 : decode cX9_track 21 = .ok (.putfield 222, 3) := by decide +kernel
theorem dX9_track_24 : decode cX9_track 24 = .ok (.aload_n 0, 1) := by decide +kernel
theorem dX9_track_25 : decode cX9_track 25 = .ok (.dup, 1) := by decide +kernel
theorem dX9_track_26 : decode cX9_track 26 = .ok (.getfield 237, 3) := by decide +kernel
theorem dX9_track_29 : decode cX9_track 29 = .ok (.iload_n 2, 1) := by decide +kernel
theorem dX9_track_30 : decode cX9_track 30 = .ok (.iadd, 1) := by decide +kernel
theorem dX9_track_31 : decode cX9_track 31 = .ok (.putfield 237, 3) := by decide +kernel
theorem dX9_track_34 : decode cX9_track 34 = .ok (.iload_n 2, 1) := by decide +kernel
theorem dX9_track_35 : decode cX9_track 35 = .ok (.ireturn, 1) := by decide +kernel
theorem dX9_want_0 : decode cX9_want 0 = .ok (.iload_n 1, 1) := by decide +kernel
theorem dX9_want_1 : decode cX9_want 1 = .ok (.iconst 0, 1) := by decide +kernel
theorem dX9_want_2 : decode cX9_want 2 = .ok (.sipush 1000, 3) := by decide +kernel
theorem dX9_want_5 : decode cX9_want 5 = .ok (.invokestatic 109, 3) := by decide +kernel
theorem dX9_want_8 : decode cX9_want 8 = .ok (.ifCond .ne 5, 3) := by decide +kernel
theorem dX9_want_11 : decode cX9_want 11 = .ok (.iconst 0, 1) := by decide +kernel
theorem dX9_want_12 : decode cX9_want 12 = .ok (.ireturn, 1) := by decide +kernel
theorem dX9_want_13 : decode cX9_want 13 = .ok (.aload_n 0, 1) := by decide +kernel
theorem dX9_want_14 : decode cX9_want 14 = .ok (.iload_n 1, 1) := by decide +kernel
theorem dX9_want_15 : decode cX9_want 15 = .ok (.putfield 240, 3) := by decide +kernel
theorem dX9_want_18 : decode cX9_want 18 = .ok (.iconst 1, 1) := by decide +kernel
theorem dX9_want_19 : decode cX9_want 19 = .ok (.ireturn, 1) := by decide +kernel
theorem dX9_read_0 : decode cX9_read 0 = .ok (.aload_n 0, 1) := by decide +kernel
theorem dX9_read_1 : decode cX9_read 1 = .ok (.iload_n 1, 1) := by decide +kernel
theorem dX9_read_2 : decode cX9_read 2 = .ok (.invokevirtual 231, 3) := by decide +kernel
theorem dX9_read_5 : decode cX9_read 5 = .ok (.ifCond .eq 13, 3) := by decide +kernel
theorem dX9_read_8 : decode cX9_read 8 = .ok (.iload_n 2, 1) := by decide +kernel
theorem dX9_read_9 : decode cX9_read 9 = .ok (.iconst 0, 1) := by decide +kernel
theorem dX9_read_10 : decode cX9_read 10 = .ok (.bipush 100, 2) := by decide +kernel
theorem dX9_read_12 : decode cX9_read 12 = .ok (.invokestatic 109, 3) := by decide +kernel
theorem dX9_read_15 : decode cX9_read 15 = .ok (.ifCond .ne 5, 3) := by decide +kernel
theorem dX9_read_18 : decode cX9_read 18 = .ok (.iconst 0, 1) := by decide +kernel
theorem dX9_read_19 : decode cX9_read 19 = .ok (.ireturn, 1) := by decide +kernel
theorem dX9_read_20 : decode cX9_read 20 = .ok (.aload_n 0, 1) := by decide +kernel
theorem dX9_read_21 : decode cX9_read 21 = .ok (.getfield 40, 3) := by decide +kernel
theorem dX9_read_24 : decode cX9_read 24 = .ok (.iload_n 1, 1) := by decide +kernel
theorem dX9_read_25 : decode cX9_read 25 = .ok (.iload_n 2, 1) := by decide +kernel
theorem dX9_read_26 : decode cX9_read 26 = .ok (.iastore, 1) := by decide +kernel
theorem dX9_read_27 : decode cX9_read 27 = .ok (.iconst 1, 1) := by decide +kernel
theorem dX9_read_28 : decode cX9_read 28 = .ok (.ireturn, 1) := by decide +kernel
theorem dX9_dries_0 : decode cX9_dries 0 = .ok (.aload_n 0, 1) := by decide +kernel
theorem dX9_dries_1 : decode cX9_dries 1 = .ok (.getfield 22, 3) := by decide +kernel
theorem dX9_dries_4 : decode cX9_dries 4 = .ok (.iload_n 1, 1) := by decide +kernel
theorem dX9_dries_5 : decode cX9_dries 5 = .ok (.iconst 0, 1) := by decide +kernel
theorem dX9_dries_6 : decode cX9_dries 6 = .ok (.iastore, 1) := by decide +kernel
theorem dX9_dries_7 : decode cX9_dries 7 = .ok (.aload_n 0, 1) := by decide +kernel
theorem dX9_dries_8 : decode cX9_dries 8 = .ok (.getfield 13, 3) := by decide +kernel
theorem dX9_dries_11 : decode cX9_dries 11 = .ok (.iload_n 1, 1) := by decide +kernel
theorem dX9_dries_12 : decode cX9_dries 12 = .ok (.iaload, 1) := by decide +kernel
theorem dX9_dries_13 : decode cX9_dries 13 = .ok (.ifCond .ne 4, 3) := by decide +kernel
theorem dX9_dries_16 : decode cX9_dries 16 = .ok (.return_, 1) := by decide +kernel
theorem dX9_dries_17 : decode cX9_dries 17 = .ok (.aload_n 0, 1) := by decide +kernel
theorem dX9_dries_18 : decode cX9_dries 18 = .ok (.getfield 13, 3) := by decide +kernel
theorem dX9_dries_21 : decode cX9_dries 21 = .ok (.iload_n 1, 1) := by decide +kernel
theorem dX9_dries_22 : decode cX9_dries 22 = .ok (.iaload, 1) := by decide +kernel
theorem dX9_dries_23 : decode cX9_dries 23 = .ok (.iconst 2, 1) := by decide +kernel
theorem dX9_dries_24 : decode cX9_dries 24 = .ok (.if_icmp .ne 7, 3) := by decide +kernel
theorem dX9_dries_27 : decode cX9_dries 27 = .ok (.iconst 1, 1) := by decide +kernel
theorem dX9_dries_28 : decode cX9_dries 28 = .ok (.goto 4, 3) := by decide +kernel
theorem dX9_dries_31 : decode cX9_dries 31 = .ok (.iconst 0, 1) := by decide +kernel
theorem dX9_dries_32 : decode cX9_dries 32 = .ok (.istore 5, 2) := by decide +kernel
theorem dX9_dries_34 : decode cX9_dries 34 = .ok (.bipush 12, 2) := by decide +kernel
theorem dX9_dries_36 : decode cX9_dries 36 = .ok (.iload_n 2, 1) := by decide +kernel
theorem dX9_dries_37 : decode cX9_dries 37 = .ok (.imul, 1) := by decide +kernel
theorem dX9_dries_38 : decode cX9_dries 38 = .ok (.bipush 6, 2) := by decide +kernel
theorem dX9_dries_40 : decode cX9_dries 40 = .ok (.iload_n 3, 1) := by decide +kernel
theorem dX9_dries_41 : decode cX9_dries 41 = .ok (.imul, 1) := by decide +kernel
theorem dX9_dries_42 : decode cX9_dries 42 = .ok (.iadd, 1) := by decide +kernel
theorem dX9_dries_43 : decode cX9_dries 43 = .ok (.istore 6, 2) := by decide +kernel
theorem dX9_dries_45 : decode cX9_dries 45 = .ok (.aload_n 0, 1) := by decide +kernel
theorem dX9_dries_46 : decode cX9_dries 46 = .ok (.getfield 19, 3) := by decide +kernel
theorem dX9_dries_49 : decode cX9_dries 49 = .ok (.iload_n 1, 1) := by decide +kernel
theorem dX9_dries_50 : decode cX9_dries 50 = .ok (.iconst 0, 1) := by decide +kernel
theorem dX9_dries_51 : decode cX9_dries 51 = .ok (.aload_n 0, 1) := by decide +kernel
theorem dX9_dries_52 : decode cX9_dries 52 = .ok (.getfield 19, 3) := by decide +kernel
theorem dX9_dries_55 : decode cX9_dries 55 = .ok (.iload_n 1, 1) := by decide +kernel
theorem dX9_dries_56 : decode cX9_dries 56 = .ok (.iaload, 1) := by decide +kernel
theorem dX9_dries_57 : decode cX9_dries 57 = .ok (.iload 5, 2) := by decide +kernel
theorem dX9_dries_59 : decode cX9_dries 59 = .ok (.ifCond .eq 10, 3) := by decide +kernel
theorem dX9_dries_62 : decode cX9_dries 62 = .ok (.iload 6, 2) := by decide +kernel
theorem dX9_dries_64 : decode cX9_dries 64 = .ok (.iconst 2, 1) := by decide +kernel
theorem dX9_dries_65 : decode cX9_dries 65 = .ok (.idiv, 1) := by decide +kernel
theorem dX9_dries_66 : decode cX9_dries 66 = .ok (.goto 5, 3) := by decide +kernel
theorem dX9_dries_69 : decode cX9_dries 69 = .ok (.iload 6, 2) := by decide +kernel
theorem dX9_dries_71 : decode cX9_dries 71 = .ok (.isub, 1) := by decide +kernel
theorem dX9_dries_72 : decode cX9_dries 72 = .ok (.invokestatic 216, 3) := by decide +kernel
theorem dX9_dries_75 : decode cX9_dries 75 = .ok (.iastore, 1) := by decide +kernel
theorem dX9_dries_76 : decode cX9_dries 76 = .ok (.aload_n 0, 1) := by decide +kernel
theorem dX9_dries_77 : decode cX9_dries 77 = .ok (.getfield 19, 3) := by decide +kernel
theorem dX9_dries_80 : decode cX9_dries 80 = .ok (.iload_n 1, 1) := by decide +kernel
theorem dX9_dries_81 : decode cX9_dries 81 = .ok (.sipush 900, 3) := by decide +kernel
theorem dX9_dries_84 : decode cX9_dries 84 = .ok (.aload_n 0, 1) := by decide +kernel
theorem dX9_dries_85 : decode cX9_dries 85 = .ok (.getfield 19, 3) := by decide +kernel
theorem dX9_dries_88 : decode cX9_dries 88 = .ok (.iload_n 1, 1) := by decide +kernel
theorem dX9_dries_89 : decode cX9_dries 89 = .ok (.iaload, 1) := by decide +kernel
theorem dX9_dries_90 : decode cX9_dries 90 = .ok (.iload 5, 2) := by decide +kernel
theorem dX9_dries_92 : decode cX9_dries 92 = .ok (.ifCond .eq 13, 3) := by decide +kernel
theorem dX9_dries_95 : decode cX9_dries 95 = .ok (.bipush 10, 2) := by decide +kernel
theorem dX9_dries_97 : decode cX9_dries 97 = .ok (.iload 4, 2) := by decide +kernel
theorem dX9_dries_99 : decode cX9_dries 99 = .ok (.imul, 1) := by decide +kernel
theorem dX9_dries_100 : decode cX9_dries 100 = .ok (.iconst 4, 1) := by decide +kernel
theorem dX9_dries_101 : decode cX9_dries 101 = .ok (.idiv, 1) := by decide +kernel
theorem dX9_dries_102 : decode cX9_dries 102 = .ok (.goto 8, 3) := by decide +kernel
theorem dX9_dries_105 : decode cX9_dries 105 = .ok (.bipush 10, 2) := by decide +kernel
theorem dX9_dries_107 : decode cX9_dries 107 = .ok (.iload 4, 2) := by decide +kernel
theorem dX9_dries_109 : decode cX9_dries 109 = .ok (.imul, 1) := by decide +kernel
theorem dX9_dries_110 : decode cX9_dries 110 = .ok (.iadd, 1) := by decide +kernel
theorem dX9_dries_111 : decode cX9_dries 111 = .ok (.invokestatic 243, 3) := by decide +kernel
theorem dX9_dries_114 : decode cX9_dries 114 = .ok (.iastore, 1) := by decide +kernel
theorem dX9_dries_115 : decode cX9_dries 115 = .ok (.return_, 1) := by decide +kernel
theorem dX9_heats_0 : decode cX9_heats 0 = .ok (.aload_n 0, 1) := by decide +kernel
theorem dX9_heats_1 : decode cX9_heats 1 = .ok (.iload_n 1, 1) := by decide +kernel
theorem dX9_heats_2 : decode cX9_heats 2 = .ok (.invokevirtual 234, 3) := by decide +kernel
theorem dX9_heats_5 : decode cX9_heats 5 = .ok (.ifCond .eq 38, 3) := by decide +kernel
theorem dX9_heats_8 : decode cX9_heats 8 = .ok (.iconst 1, 1) := by decide +kernel
theorem dX9_heats_9 : decode cX9_heats 9 = .ok (.aload_n 0, 1) := by decide +kernel
theorem dX9_heats_10 : decode cX9_heats 10 = .ok (.getfield 31, 3) := by decide +kernel
theorem dX9_heats_13 : decode cX9_heats 13 = .ok (.iload_n 1, 1) := by decide +kernel
theorem dX9_heats_14 : decode cX9_heats 14 = .ok (.iaload, 1) := by decide +kernel
theorem dX9_heats_15 : decode cX9_heats 15 = .ok (.bipush 10, 2) := by decide +kernel
theorem dX9_heats_17 : decode cX9_heats 17 = .ok (.idiv, 1) := by decide +kernel
theorem dX9_heats_18 : decode cX9_heats 18 = .ok (.invokestatic 216, 3) := by decide +kernel
theorem dX9_heats_21 : decode cX9_heats 21 = .ok (.istore_n 3, 1) := by decide +kernel
theorem dX9_heats_22 : decode cX9_heats 22 = .ok (.aload_n 0, 1) := by decide +kernel
theorem dX9_heats_23 : decode cX9_heats 23 = .ok (.getfield 31, 3) := by decide +kernel
theorem dX9_heats_26 : decode cX9_heats 26 = .ok (.iload_n 1, 1) := by decide +kernel
theorem dX9_heats_27 : decode cX9_heats 27 = .ok (.dup2, 1) := by decide +kernel
theorem dX9_heats_28 : decode cX9_heats 28 = .ok (.iaload, 1) := by decide +kernel
theorem dX9_heats_29 : decode cX9_heats 29 = .ok (.iload_n 3, 1) := by decide +kernel
end
section
theorem dX9_heats_30 : decode cX9_heats 30 = .ok (.isub, 1) := by decide +kernel
theorem dX9_heats_31 : decode cX9_heats 31 = .ok (.iastore, 1) := by decide +kernel
theorem dX9_heats_32 : decode cX9_heats 32 = .ok (.aload_n 0, 1) := by decide +kernel
theorem dX9_heats_33 : decode cX9_heats 33 = .ok (.dup, 1) := by decide +kernel
theorem dX9_heats_34 : decode cX9_heats 34 = .ok (.getfield 246, 3) := by decide +kernel
theorem dX9_heats_37 : decode cX9_heats 37 = .ok (.iload_n 3, 1) := by decide +kernel
theorem dX9_heats_38 : decode cX9_heats 38 = .ok (.iadd, 1) := by decide +kernel
theorem dX9_heats_39 : decode cX9_heats 39 = .ok (.putfield 246, 3) := by decide +kernel
theorem dX9_heats_42 : decode cX9_heats 42 = .ok (.return_, 1) := by decide +kernel
theorem dX9_heats_43 : decode cX9_heats 43 = .ok (.iconst 1, 1) := by decide +kernel
theorem dX9_heats_44 : decode cX9_heats 44 = .ok (.aload_n 0, 1) := by decide +kernel
theorem dX9_heats_45 : decode cX9_heats 45 = .ok (.getfield 31, 3) := by decide +kernel
theorem dX9_heats_48 : decode cX9_heats 48 = .ok (.iload_n 1, 1) := by decide +kernel
theorem dX9_heats_49 : decode cX9_heats 49 = .ok (.iaload, 1) := by decide +kernel
theorem dX9_heats_50 : decode cX9_heats 50 = .ok (.sipush 500, 3) := by decide +kernel
theorem dX9_heats_53 : decode cX9_heats 53 = .ok (.idiv, 1) := by decide +kernel
theorem dX9_heats_54 : decode cX9_heats 54 = .ok (.iadd, 1) := by decide +kernel
theorem dX9_heats_55 : decode cX9_heats 55 = .ok (.aload_n 0, 1) := by decide +kernel
theorem dX9_heats_56 : decode cX9_heats 56 = .ok (.getfield 34, 3) := by decide +kernel
theorem dX9_heats_59 : decode cX9_heats 59 = .ok (.iload_n 1, 1) := by decide +kernel
theorem dX9_heats_60 : decode cX9_heats 60 = .ok (.iaload, 1) := by decide +kernel
theorem dX9_heats_61 : decode cX9_heats 61 = .ok (.sipush 500, 3) := by decide +kernel
theorem dX9_heats_64 : decode cX9_heats 64 = .ok (.if_icmp .le 7, 3) := by decide +kernel
theorem dX9_heats_67 : decode cX9_heats 67 = .ok (.iconst 2, 1) := by decide +kernel
theorem dX9_heats_68 : decode cX9_heats 68 = .ok (.goto 4, 3) := by decide +kernel
theorem dX9_heats_71 : decode cX9_heats 71 = .ok (.iconst 0, 1) := by decide +kernel
theorem dX9_heats_72 : decode cX9_heats 72 = .ok (.iadd, 1) := by decide +kernel
theorem dX9_heats_73 : decode cX9_heats 73 = .ok (.iload_n 2, 1) := by decide +kernel
theorem dX9_heats_74 : decode cX9_heats 74 = .ok (.bipush 20, 2) := by decide +kernel
theorem dX9_heats_76 : decode cX9_heats 76 = .ok (.if_icmp .le 7, 3) := by decide +kernel
theorem dX9_heats_79 : decode cX9_heats 79 = .ok (.iconst 3, 1) := by decide +kernel
theorem dX9_heats_80 : decode cX9_heats 80 = .ok (.goto 4, 3) := by decide +kernel
theorem dX9_heats_83 : decode cX9_heats 83 = .ok (.iconst 0, 1) := by decide +kernel
theorem dX9_heats_84 : decode cX9_heats 84 = .ok (.isub, 1) := by decide +kernel
theorem dX9_heats_85 : decode cX9_heats 85 = .ok (.istore_n 3, 1) := by decide +kernel
theorem dX9_heats_86 : decode cX9_heats 86 = .ok (.aload_n 0, 1) := by decide +kernel
theorem dX9_heats_87 : decode cX9_heats 87 = .ok (.getfield 37, 3) := by decide +kernel
theorem dX9_heats_90 : decode cX9_heats 90 = .ok (.iload_n 1, 1) := by decide +kernel
theorem dX9_heats_91 : decode cX9_heats 91 = .ok (.bipush 10, 2) := by decide +kernel
theorem dX9_heats_93 : decode cX9_heats 93 = .ok (.bipush 100, 2) := by decide +kernel
theorem dX9_heats_95 : decode cX9_heats 95 = .ok (.aload_n 0, 1) := by decide +kernel
theorem dX9_heats_96 : decode cX9_heats 96 = .ok (.getfield 37, 3) := by decide +kernel
theorem dX9_heats_99 : decode cX9_heats 99 = .ok (.iload_n 1, 1) := by decide +kernel
theorem dX9_heats_100 : decode cX9_heats 100 = .ok (.iaload, 1) := by decide +kernel
theorem dX9_heats_101 : decode cX9_heats 101 = .ok (.iload_n 3, 1) := by decide +kernel
theorem dX9_heats_102 : decode cX9_heats 102 = .ok (.iadd, 1) := by decide +kernel
theorem dX9_heats_103 : decode cX9_heats 103 = .ok (.invokestatic 243, 3) := by decide +kernel
theorem dX9_heats_106 : decode cX9_heats 106 = .ok (.invokestatic 216, 3) := by decide +kernel
theorem dX9_heats_109 : decode cX9_heats 109 = .ok (.iastore, 1) := by decide +kernel
theorem dX9_heats_110 : decode cX9_heats 110 = .ok (.aload_n 0, 1) := by decide +kernel
theorem dX9_heats_111 : decode cX9_heats 111 = .ok (.getfield 37, 3) := by decide +kernel
theorem dX9_heats_114 : decode cX9_heats 114 = .ok (.iload_n 1, 1) := by decide +kernel
theorem dX9_heats_115 : decode cX9_heats 115 = .ok (.iaload, 1) := by decide +kernel
theorem dX9_heats_116 : decode cX9_heats 116 = .ok (.bipush 100, 2) := by decide +kernel
theorem dX9_heats_118 : decode cX9_heats 118 = .ok (.if_icmp .ne 13, 3) := by decide +kernel
theorem dX9_heats_121 : decode cX9_heats 121 = .ok (.aload_n 0, 1) := by decide +kernel
theorem dX9_heats_122 : decode cX9_heats 122 = .ok (.getfield 46, 3) := by decide +kernel
theorem dX9_heats_125 : decode cX9_heats 125 = .ok (.iload_n 1, 1) := by decide +kernel
theorem dX9_heats_126 : decode cX9_heats 126 = .ok (.aload_n 0, 1) := by decide +kernel
theorem dX9_heats_127 : decode cX9_heats 127 = .ok (.getfield 194, 3) := by decide +kernel
theorem dX9_heats_130 : decode cX9_heats 130 = .ok (.iastore, 1) := by decide +kernel
theorem dX9_heats_131 : decode cX9_heats 131 = .ok (.return_, 1) := by decide +kernel
theorem dX9_act_0 : decode cX9_act 0 = .ok (.aload_n 0, 1) := by decide +kernel
theorem dX9_act_1 : decode cX9_act 1 = .ok (.iload_n 2, 1) := by decide +kernel
theorem dX9_act_2 : decode cX9_act 2 = .ok (.invokevirtual 197, 3) := by decide +kernel
theorem dX9_act_5 : decode cX9_act 5 = .ok (.istore_n 3, 1) := by decide +kernel
theorem dX9_act_6 : decode cX9_act 6 = .ok (.bipush 16, 2) := by decide +kernel
theorem dX9_act_8 : decode cX9_act 8 = .ok (.iload_n 3, 1) := by decide +kernel
theorem dX9_act_9 : decode cX9_act 9 = .ok (.imul, 1) := by decide +kernel
theorem dX9_act_10 : decode cX9_act 10 = .ok (.istore 4, 2) := by decide +kernel
theorem dX9_act_12 : decode cX9_act 12 = .ok (.iload_n 3, 1) := by decide +kernel
theorem dX9_act_13 : decode cX9_act 13 = .ok (.iconst (-1), 1) := by decide +kernel
theorem dX9_act_14 : decode cX9_act 14 = .ok (.if_icmp .eq 221, 3) := by decide +kernel
theorem dX9_act_17 : decode cX9_act 17 = .ok (.iload 4, 2) := by decide +kernel
theorem dX9_act_19 : decode cX9_act 19 = .ok (.bipush 16, 2) := by decide +kernel
theorem dX9_act_21 : decode cX9_act 21 = .ok (.iload_n 3, 1) := by decide +kernel
theorem dX9_act_22 : decode cX9_act 22 = .ok (.imul, 1) := by decide +kernel
theorem dX9_act_23 : decode cX9_act 23 = .ok (.aload_n 0, 1) := by decide +kernel
theorem dX9_act_24 : decode cX9_act 24 = .ok (.getfield 67, 3) := by decide +kernel
theorem dX9_act_27 : decode cX9_act 27 = .ok (.iload_n 3, 1) := by decide +kernel
theorem dX9_act_28 : decode cX9_act 28 = .ok (.iaload, 1) := by decide +kernel
theorem dX9_act_29 : decode cX9_act 29 = .ok (.iadd, 1) := by decide +kernel
theorem dX9_act_30 : decode cX9_act 30 = .ok (.if_icmp .ge 205, 3) := by decide +kernel
theorem dX9_act_33 : decode cX9_act 33 = .ok (.aload_n 0, 1) := by decide +kernel
theorem dX9_act_34 : decode cX9_act 34 = .ok (.getfield 73, 3) := by decide +kernel
theorem dX9_act_37 : decode cX9_act 37 = .ok (.iload 4, 2) := by decide +kernel
theorem dX9_act_39 : decode cX9_act 39 = .ok (.iaload, 1) := by decide +kernel
theorem dX9_act_40 : decode cX9_act 40 = .ok (.iconst 2, 1) := by decide +kernel
theorem dX9_act_41 : decode cX9_act 41 = .ok (.if_icmp .le 7, 3) := by decide +kernel
theorem dX9_act_44 : decode cX9_act 44 = .ok (.iconst 1, 1) := by decide +kernel
theorem dX9_act_45 : decode cX9_act 45 = .ok (.goto 4, 3) := by decide +kernel
theorem dX9_act_48 : decode cX9_act 48 = .ok (.iconst 0, 1) := by decide +kernel
theorem dX9_act_49 : decode cX9_act 49 = .ok (.istore 5, 2) := by decide +kernel
theorem dX9_act_51 : decode cX9_act 51 = .ok (.iconst 3, 1) := by decide +kernel
theorem dX9_act_52 : decode cX9_act 52 = .ok (.iload 4, 2) := by decide +kernel
theorem dX9_act_54 : decode cX9_act 54 = .ok (.imul, 1) := by decide +kernel
theorem dX9_act_55 : decode cX9_act 55 = .ok (.istore 6, 2) := by decide +kernel
theorem dX9_act_57 : decode cX9_act 57 = .ok (.iload 6, 2) := by decide +kernel
theorem dX9_act_59 : decode cX9_act 59 = .ok (.iconst 3, 1) := by decide +kernel
theorem dX9_act_60 : decode cX9_act 60 = .ok (.iload 4, 2) := by decide +kernel
theorem dX9_act_62 : decode cX9_act 62 = .ok (.imul, 1) := by decide +kernel
theorem dX9_act_63 : decode cX9_act 63 = .ok (.aload_n 0, 1) := by decide +kernel
theorem dX9_act_64 : decode cX9_act 64 = .ok (.getfield 88, 3) := by decide +kernel
theorem dX9_act_67 : decode cX9_act 67 = .ok (.iload 4, 2) := by decide +kernel
theorem dX9_act_69 : decode cX9_act 69 = .ok (.iaload, 1) := by decide +kernel
theorem dX9_act_70 : decode cX9_act 70 = .ok (.iadd, 1) := by decide +kernel
theorem dX9_act_71 : decode cX9_act 71 = .ok (.if_icmp .ge 145, 3) := by decide +kernel
theorem dX9_act_74 : decode cX9_act 74 = .ok (.iload 5, 2) := by decide +kernel
theorem dX9_act_76 : decode cX9_act 76 = .ok (.ifCond .eq 140, 3) := by decide +kernel
theorem dX9_act_79 : decode cX9_act 79 = .ok (.aload_n 0, 1) := by decide +kernel
theorem dX9_act_80 : decode cX9_act 80 = .ok (.getfield 91, 3) := by decide +kernel
theorem dX9_act_83 : decode cX9_act 83 = .ok (.iload 6, 2) := by decide +kernel
theorem dX9_act_85 : decode cX9_act 85 = .ok (.iaload, 1) := by decide +kernel
theorem dX9_act_86 : decode cX9_act 86 = .ok (.ifCond .ne 12, 3) := by decide +kernel
theorem dX9_act_89 : decode cX9_act 89 = .ok (.aload_n 0, 1) := by decide +kernel
theorem dX9_act_90 : decode cX9_act 90 = .ok (.getfield 40, 3) := by decide +kernel
theorem dX9_act_93 : decode cX9_act 93 = .ok (.iload_n 1, 1) := by decide +kernel
theorem dX9_act_94 : decode cX9_act 94 = .ok (.iaload, 1) := by decide +kernel
theorem dX9_act_95 : decode cX9_act 95 = .ok (.goto 34, 3) := by decide +kernel
theorem dX9_act_98 : decode cX9_act 98 = .ok (.aload_n 0, 1) := by decide +kernel
theorem dX9_act_99 : decode cX9_act 99 = .ok (.getfield 91, 3) := by decide +kernel
theorem dX9_act_102 : decode cX9_act 102 = .ok (.iload 6, 2) := by decide +kernel
theorem dX9_act_104 : decode cX9_act 104 = .ok (.iaload, 1) := by decide +kernel
theorem dX9_act_105 : decode cX9_act 105 = .ok (.iconst 1, 1) := by decide +kernel
theorem dX9_act_106 : decode cX9_act 106 = .ok (.if_icmp .ne 17, 3) := by decide +kernel
theorem dX9_act_109 : decode cX9_act 109 = .ok (.iload_n 2, 1) := by decide +kernel
theorem dX9_act_110 : decode cX9_act 110 = .ok (.aload_n 0, 1) := by decide +kernel
theorem dX9_act_111 : decode cX9_act 111 = .ok (.getfield 43, 3) := by decide +kernel
theorem dX9_act_114 : decode cX9_act 114 = .ok (.iload_n 1, 1) := by decide +kernel
theorem dX9_act_115 : decode cX9_act 115 = .ok (.iaload, 1) := by decide +kernel
theorem dX9_act_116 : decode cX9_act 116 = .ok (.isub, 1) := by decide +kernel
theorem dX9_act_117 : decode cX9_act 117 = .ok (.bipush 7, 2) := by decide +kernel
theorem dX9_act_119 : decode cX9_act 119 = .ok (.idiv, 1) := by decide +kernel
theorem dX9_act_120 : decode cX9_act 120 = .ok (.goto 9, 3) := by decide +kernel
theorem dX9_act_123 : decode cX9_act 123 = .ok (.aload_n 0, 1) := by decide +kernel
theorem dX9_act_124 : decode cX9_act 124 = .ok (.getfield 31, 3) := by decide +kernel
theorem dX9_act_127 : decode cX9_act 127 = .ok (.iload_n 1, 1) := by decide +kernel
theorem dX9_act_128 : decode cX9_act 128 = .ok (.iaload, 1) := by decide +kernel
theorem dX9_act_129 : decode cX9_act 129 = .ok (.istore 7, 2) := by decide +kernel
theorem dX9_act_131 : decode cX9_act 131 = .ok (.iload 7, 2) := by decide +kernel
theorem dX9_act_133 : decode cX9_act 133 = .ok (.iconst (-1), 1) := by decide +kernel
theorem dX9_act_134 : decode cX9_act 134 = .ok (.if_icmp .eq 73, 3) := by decide +kernel
theorem dX9_act_137 : decode cX9_act 137 = .ok (.aload_n 0, 1) := by decide +kernel
theorem dX9_act_138 : decode cX9_act 138 = .ok (.getfield 94, 3) := by decide +kernel
theorem dX9_act_141 : decode cX9_act 141 = .ok (.iload 6, 2) := by decide +kernel
theorem dX9_act_143 : decode cX9_act 143 = .ok (.iaload, 1) := by decide +kernel
theorem dX9_act_144 : decode cX9_act 144 = .ok (.bipush 60, 2) := by decide +kernel
theorem dX9_act_146 : decode cX9_act 146 = .ok (.if_icmp .ne 18, 3) := by decide +kernel
theorem dX9_act_149 : decode cX9_act 149 = .ok (.iload 7, 2) := by decide +kernel
theorem dX9_act_151 : decode cX9_act 151 = .ok (.aload_n 0, 1) := by decide +kernel
theorem dX9_act_152 : decode cX9_act 152 = .ok (.getfield 97, 3) := by decide +kernel
theorem dX9_act_155 : decode cX9_act 155 = .ok (.iload 6, 2) := by decide +kernel
theorem dX9_act_157 : decode cX9_act 157 = .ok (.iaload, 1) := by decide +kernel
theorem dX9_act_158 : decode cX9_act 158 = .ok (.if_icmp .ge 49, 3) := by decide +kernel
theorem dX9_act_161 : decode cX9_act 161 = .ok (.goto 42, 3) := by decide +kernel
theorem dX9_act_164 : decode cX9_act 164 = .ok (.aload_n 0, 1) := by decide +kernel
theorem dX9_act_165 : decode cX9_act 165 = .ok (.getfield 94, 3) := by decide +kernel
theorem dX9_act_168 : decode cX9_act 168 = .ok (.iload 6, 2) := by decide +kernel
theorem dX9_act_170 : decode cX9_act 170 = .ok (.iaload, 1) := by decide +kernel
theorem dX9_act_171 : decode cX9_act 171 = .ok (.bipush 62, 2) := by decide +kernel
theorem dX9_act_173 : decode cX9_act 173 = .ok (.if_icmp .ne 18, 3) := by decide +kernel
theorem dX9_act_176 : decode cX9_act 176 = .ok (.iload 7, 2) := by decide +kernel
theorem dX9_act_178 : decode cX9_act 178 = .ok (.aload_n 0, 1) := by decide +kernel
theorem dX9_act_179 : decode cX9_act 179 = .ok (.getfield 97, 3) := by decide +kernel
theorem dX9_act_182 : decode cX9_act 182 = .ok (.iload 6, 2) := by decide +kernel
theorem dX9_act_184 : decode cX9_act 184 = .ok (.iaload, 1) := by decide +kernel
theorem dX9_act_185 : decode cX9_act 185 = .ok (.if_icmp .le 22, 3) := by decide +kernel
theorem dX9_act_188 : decode cX9_act 188 = .ok (.goto 15, 3) := by decide +kernel
theorem dX9_act_191 : decode cX9_act 191 = .ok (.iload 7, 2) := by decide +kernel
theorem dX9_act_193 : decode cX9_act 193 = .ok (.aload_n 0, 1) := by decide +kernel
theorem dX9_act_194 : decode cX9_act 194 = .ok (.getfield 97, 3) := by decide +kernel
theorem dX9_act_197 : decode cX9_act 197 = .ok (.iload 6, 2) := by decide +kernel
theorem dX9_act_199 : decode cX9_act 199 = .ok (.iaload, 1) := by decide +kernel
theorem dX9_act_200 : decode cX9_act 200 = .ok (.if_icmp .ne 7, 3) := by decide +kernel
theorem dX9_act_203 : decode cX9_act 203 = .ok (.iconst 1, 1) := by decide +kernel
theorem dX9_act_204 : decode cX9_act 204 = .ok (.goto 4, 3) := by decide +kernel
theorem dX9_act_207 : decode cX9_act 207 = .ok (.iconst 0, 1) := by decide +kernel
theorem dX9_act_208 : decode cX9_act 208 = .ok (.istore 5, 2) := by decide +kernel
theorem dX9_act_210 : decode cX9_act 210 = .ok (.iinc 6 1, 3) := by decide +kernel
theorem dX9_act_213 : decode cX9_act 213 = .ok (.goto (-156), 3) := by decide +kernel
theorem dX9_act_216 : decode cX9_act 216 = .ok (.iload 5, 2) := by decide +kernel
theorem dX9_act_218 : decode cX9_act 218 = .ok (.ifCond .eq 11, 3) := by decide +kernel
theorem dX9_act_221 : decode cX9_act 221 = .ok (.aload_n 0, 1) := by decide +kernel
theorem dX9_act_222 : decode cX9_act 222 = .ok (.getfield 73, 3) := by decide +kernel
theorem dX9_act_225 : decode cX9_act 225 = .ok (.iload 4, 2) := by decide +kernel
theorem dX9_act_227 : decode cX9_act 227 = .ok (.iaload, 1) := by decide +kernel
theorem dX9_act_228 : decode cX9_act 228 = .ok (.ireturn, 1) := by decide +kernel
theorem dX9_act_229 : decode cX9_act 229 = .ok (.iinc 4 1, 3) := by decide +kernel
theorem dX9_act_232 : decode cX9_act 232 = .ok (.goto (-220), 3) := by decide +kernel
theorem dX9_act_235 : decode cX9_act 235 = .ok (.iconst 5, 1) := by decide +kernel
theorem dX9_act_236 : decode cX9_act 236 = .ok (.ireturn, 1) := by decide +kernel
theorem dX9_day_0 : decode cX9_day 0 = .ok (.iload_n 1, 1) := by decide +kernel
theorem dX9_day_1 : decode cX9_day 1 = .ok (.iconst 0, 1) := by decide +kernel
theorem dX9_day_2 : decode cX9_day 2 = .ok (.bipush 10, 2) := by decide +kernel
theorem dX9_day_4 : decode cX9_day 4 = .ok (.invokestatic 109, 3) := by decide +kernel
theorem dX9_day_7 : decode cX9_day 7 = .ok (.ifCond .eq 33, 3) := by decide +kernel
theorem dX9_day_10 : decode cX9_day 10 = .ok (.iload_n 2, 1) := by decide +kernel
theorem dX9_day_11 : decode cX9_day 11 = .ok (.iconst 0, 1) := by decide +kernel
theorem dX9_day_12 : decode cX9_day 12 = .ok (.bipush 10, 2) := by decide +kernel
theorem dX9_day_14 : decode cX9_day 14 = .ok (.invokestatic 109, 3) := by decide +kernel
theorem dX9_day_17 : decode cX9_day 17 = .ok (.ifCond .eq 23, 3) := by decide +kernel
theorem dX9_day_20 : decode cX9_day 20 = .ok (.iload_n 3, 1) := by decide +kernel
theorem dX9_day_21 : decode cX9_day 21 = .ok (.iconst 0, 1) := by decide +kernel
theorem dX9_day_22 : decode cX9_day 22 = .ok (.bipush 50, 2) := by decide +kernel
theorem dX9_day_24 : decode cX9_day 24 = .ok (.invokestatic 109, 3) := by decide +kernel
theorem dX9_day_27 : decode cX9_day 27 = .ok (.ifCond .eq 13, 3) := by decide +kernel
theorem dX9_day_30 : decode cX9_day 30 = .ok (.aload_n 0, 1) := by decide +kernel
theorem dX9_day_31 : decode cX9_day 31 = .ok (.getfield 194, 3) := by decide +kernel
theorem dX9_day_34 : decode cX9_day 34 = .ok (.sipush 1000, 3) := by decide +kernel
theorem dX9_day_37 : decode cX9_day 37 = .ok (.if_icmp .ne 5, 3) := by decide +kernel
theorem dX9_day_40 : decode cX9_day 40 = .ok (.iconst (-1), 1) := by decide +kernel
theorem dX9_day_41 : decode cX9_day 41 = .ok (.ireturn, 1) := by decide +kernel
theorem dX9_day_42 : decode cX9_day 42 = .ok (.iconst 0, 1) := by decide +kernel
theorem dX9_day_43 : decode cX9_day 43 = .ok (.istore 4, 2) := by decide +kernel
theorem dX9_day_45 : decode cX9_day 45 = .ok (.iload 4, 2) := by decide +kernel
theorem dX9_day_47 : decode cX9_day 47 = .ok (.bipush 16, 2) := by decide +kernel
theorem dX9_day_49 : decode cX9_day 49 = .ok (.if_icmp .ge 18, 3) := by decide +kernel
theorem dX9_day_52 : decode cX9_day 52 = .ok (.aload_n 0, 1) := by decide +kernel
theorem dX9_day_53 : decode cX9_day 53 = .ok (.iload 4, 2) := by decide +kernel
theorem dX9_day_55 : decode cX9_day 55 = .ok (.iload_n 1, 1) := by decide +kernel
theorem dX9_day_56 : decode cX9_day 56 = .ok (.iload_n 2, 1) := by decide +kernel
theorem dX9_day_57 : decode cX9_day 57 = .ok (.iload_n 3, 1) := by decide +kernel
theorem dX9_day_58 : decode cX9_day 58 = .ok (.invokevirtual 249, 3) := by decide +kernel
theorem dX9_day_61 : decode cX9_day 61 = .ok (.iinc 4 1, 3) := by decide +kernel
theorem dX9_day_64 : decode cX9_day 64 = .ok (.goto (-19), 3) := by decide +kernel
theorem dX9_day_67 : decode cX9_day 67 = .ok (.iconst 0, 1) := by decide +kernel
theorem dX9_day_68 : decode cX9_day 68 = .ok (.istore 4, 2) := by decide +kernel
theorem dX9_day_70 : decode cX9_day 70 = .ok (.iload 4, 2) := by decide +kernel
theorem dX9_day_72 : decode cX9_day 72 = .ok (.aload_n 0, 1) := by decide +kernel
theorem dX9_day_73 : decode cX9_day 73 = .ok (.getfield 113, 3) := by decide +kernel
theorem dX9_day_76 : decode cX9_day 76 = .ok (.if_icmp .ge 26, 3) := by decide +kernel
theorem dX9_day_79 : decode cX9_day 79 = .ok (.aload_n 0, 1) := by decide +kernel
theorem dX9_day_80 : decode cX9_day 80 = .ok (.getfield 31, 3) := by decide +kernel
theorem dX9_day_83 : decode cX9_day 83 = .ok (.iload 4, 2) := by decide +kernel
theorem dX9_day_85 : decode cX9_day 85 = .ok (.iaload, 1) := by decide +kernel
theorem dX9_day_86 : decode cX9_day 86 = .ok (.ifCond .le 10, 3) := by decide +kernel
theorem dX9_day_89 : decode cX9_day 89 = .ok (.aload_n 0, 1) := by decide +kernel
theorem dX9_day_90 : decode cX9_day 90 = .ok (.iload 4, 2) := by decide +kernel
theorem dX9_day_92 : decode cX9_day 92 = .ok (.iload_n 3, 1) := by decide +kernel
theorem dX9_day_93 : decode cX9_day 93 = .ok (.invokevirtual 253, 3) := by decide +kernel
theorem dX9_day_96 : decode cX9_day 96 = .ok (.iinc 4 1, 3) := by decide +kernel
theorem dX9_day_99 : decode cX9_day 99 = .ok (.goto (-29), 3) := by decide +kernel
theorem dX9_day_102 : decode cX9_day 102 = .ok (.aload_n 0, 1) := by decide +kernel
theorem dX9_day_103 : decode cX9_day 103 = .ok (.getfield 240, 3) := by decide +kernel
theorem dX9_day_106 : decode cX9_day 106 = .ok (.istore 4, 2) := by decide +kernel
theorem dX9_day_108 : decode cX9_day 108 = .ok (.iload 4, 2) := by decide +kernel
theorem dX9_day_110 : decode cX9_day 110 = .ok (.aload_n 0, 1) := by decide +kernel
theorem dX9_day_111 : decode cX9_day 111 = .ok (.getfield 257, 3) := by decide +kernel
theorem dX9_day_114 : decode cX9_day 114 = .ok (.invokestatic 243, 3) := by decide +kernel
theorem dX9_day_117 : decode cX9_day 117 = .ok (.istore 5, 2) := by decide +kernel
theorem dX9_day_119 : decode cX9_day 119 = .ok (.aload_n 0, 1) := by decide +kernel
theorem dX9_day_120 : decode cX9_day 120 = .ok (.dup, 1) := by decide +kernel
theorem dX9_day_121 : decode cX9_day 121 = .ok (.getfield 257, 3) := by decide +kernel
theorem dX9_day_124 : decode cX9_day 124 = .ok (.iload 5, 2) := by decide +kernel
theorem dX9_day_126 : decode cX9_day 126 = .ok (.isub, 1) := by decide +kernel
theorem dX9_day_127 : decode cX9_day 127 = .ok (.putfield 257, 3) := by decide +kernel
theorem dX9_day_130 : decode cX9_day 130 = .ok (.iload 4, 2) := by decide +kernel
theorem dX9_day_132 : decode cX9_day 132 = .ok (.iload 5, 2) := by decide +kernel
theorem dX9_day_134 : decode cX9_day 134 = .ok (.isub, 1) := by decide +kernel
theorem dX9_day_135 : decode cX9_day 135 = .ok (.istore 4, 2) := by decide +kernel
theorem dX9_day_137 : decode cX9_day 137 = .ok (.iconst 0, 1) := by decide +kernel
theorem dX9_day_138 : decode cX9_day 138 = .ok (.istore 6, 2) := by decide +kernel
theorem dX9_day_140 : decode cX9_day 140 = .ok (.iload 6, 2) := by decide +kernel
theorem dX9_day_142 : decode cX9_day 142 = .ok (.aload_n 0, 1) := by decide +kernel
theorem dX9_day_143 : decode cX9_day 143 = .ok (.getfield 113, 3) := by decide +kernel
theorem dX9_day_146 : decode cX9_day 146 = .ok (.if_icmp .ge 54, 3) := by decide +kernel
theorem dX9_day_149 : decode cX9_day 149 = .ok (.aload_n 0, 1) := by decide +kernel
theorem dX9_day_150 : decode cX9_day 150 = .ok (.iload 6, 2) := by decide +kernel
theorem dX9_day_152 : decode cX9_day 152 = .ok (.invokevirtual 234, 3) := by decide +kernel
theorem dX9_day_155 : decode cX9_day 155 = .ok (.ifCond .eq 6, 3) := by decide +kernel
theorem dX9_day_158 : decode cX9_day 158 = .ok (.goto 36, 3) := by decide +kernel
theorem dX9_day_161 : decode cX9_day 161 = .ok (.iload 4, 2) := by decide +kernel
theorem dX9_day_163 : decode cX9_day 163 = .ok (.aload_n 0, 1) := by decide +kernel
theorem dX9_day_164 : decode cX9_day 164 = .ok (.getfield 31, 3) := by decide +kernel
theorem dX9_day_167 : decode cX9_day 167 = .ok (.iload 6, 2) := by decide +kernel
theorem dX9_day_169 : decode cX9_day 169 = .ok (.iaload, 1) := by decide +kernel
theorem dX9_day_170 : decode cX9_day 170 = .ok (.invokestatic 243, 3) := by decide +kernel
theorem dX9_day_173 : decode cX9_day 173 = .ok (.istore 5, 2) := by decide +kernel
theorem dX9_day_175 : decode cX9_day 175 = .ok (.aload_n 0, 1) := by decide +kernel
theorem dX9_day_176 : decode cX9_day 176 = .ok (.getfield 31, 3) := by decide +kernel
theorem dX9_day_179 : decode cX9_day 179 = .ok (.iload 6, 2) := by decide +kernel
theorem dX9_day_181 : decode cX9_day 181 = .ok (.dup2, 1) := by decide +kernel
theorem dX9_day_182 : decode cX9_day 182 = .ok (.iaload, 1) := by decide +kernel
theorem dX9_day_183 : decode cX9_day 183 = .ok (.iload 5, 2) := by decide +kernel
theorem dX9_day_185 : decode cX9_day 185 = .ok (.isub, 1) := by decide +kernel
theorem dX9_day_186 : decode cX9_day 186 = .ok (.iastore, 1) := by decide +kernel
theorem dX9_day_187 : decode cX9_day 187 = .ok (.iload 4, 2) := by decide +kernel
theorem dX9_day_189 : decode cX9_day 189 = .ok (.iload 5, 2) := by decide +kernel
theorem dX9_day_191 : decode cX9_day 191 = .ok (.isub, 1) := by decide +kernel
theorem dX9_day_192 : decode cX9_day 192 = .ok (.istore 4, 2) := by decide +kernel
theorem dX9_day_194 : decode cX9_day 194 = .ok (.iinc 6 1, 3) := by decide +kernel
theorem dX9_day_197 : decode cX9_day 197 = .ok (.goto (-57), 3) := by decide +kernel
theorem dX9_day_200 : decode cX9_day 200 = .ok (.aload_n 0, 1) := by decide +kernel
theorem dX9_day_201 : decode cX9_day 201 = .ok (.dup, 1) := by decide +kernel
theorem dX9_day_202 : decode cX9_day 202 = .ok (.getfield 260, 3) := by decide +kernel
theorem dX9_day_205 : decode cX9_day 205 = .ok (.aload_n 0, 1) := by decide +kernel
theorem dX9_day_206 : decode cX9_day 206 = .ok (.getfield 240, 3) := by decide +kernel
theorem dX9_day_209 : decode cX9_day 209 = .ok (.iload 4, 2) := by decide +kernel
theorem dX9_day_211 : decode cX9_day 211 = .ok (.isub, 1) := by decide +kernel
theorem dX9_day_212 : decode cX9_day 212 = .ok (.iadd, 1) := by decide +kernel
theorem dX9_day_213 : decode cX9_day 213 = .ok (.putfield 260, 3) := by decide +kernel
theorem dX9_day_216 : decode cX9_day 216 = .ok (.aload_n 0, 1) := by decide +kernel
theorem dX9_day_217 : decode cX9_day 217 = .ok (.dup, 1) := by decide +kernel
theorem dX9_day_218 : decode cX9_day 218 = .ok (.getfield 263, 3) := by decide +kernel
theorem dX9_day_221 : decode cX9_day 221 = .ok (.iload 4, 2) := by decide +kernel
theorem dX9_day_223 : decode cX9_day 223 = .ok (.iadd, 1) := by decide +kernel
theorem dX9_day_224 : decode cX9_day 224 = .ok (.putfield 263, 3) := by decide +kernel
theorem dX9_day_227 : decode cX9_day 227 = .ok (.aload_n 0, 1) := by decide +kernel
theorem dX9_day_228 : decode cX9_day 228 = .ok (.iload 4, 2) := by decide +kernel
theorem dX9_day_230 : decode cX9_day 230 = .ok (.putfield 266, 3) := by decide +kernel
theorem dX9_day_233 : decode cX9_day 233 = .ok (.aload_n 0, 1) := by decide +kernel
theorem dX9_day_234 : decode cX9_day 234 = .ok (.dup, 1) := by decide +kernel
theorem dX9_day_235 : decode cX9_day 235 = .ok (.getfield 194, 3) := by decide +kernel
theorem dX9_day_238 : decode cX9_day 238 = .ok (.iconst 1, 1) := by decide +kernel
theorem dX9_day_239 : decode cX9_day 239 = .ok (.iadd, 1) := by decide +kernel
theorem dX9_day_240 : decode cX9_day 240 = .ok (.putfield 194, 3) := by decide +kernel
theorem dX9_day_243 : decode cX9_day 243 = .ok (.iconst 0, 1) := by decide +kernel
theorem dX9_day_244 : decode cX9_day 244 = .ok (.istore 6, 2) := by decide +kernel
theorem dX9_day_246 : decode cX9_day 246 = .ok (.iload 6, 2) := by decide +kernel
theorem dX9_day_248 : decode cX9_day 248 = .ok (.aload_n 0, 1) := by decide +kernel
theorem dX9_day_249 : decode cX9_day 249 = .ok (.getfield 113, 3) := by decide +kernel
theorem dX9_day_252 : decode cX9_day 252 = .ok (.if_icmp .ge 132, 3) := by decide +kernel
theorem dX9_day_255 : decode cX9_day 255 = .ok (.aload_n 0, 1) := by decide +kernel
theorem dX9_day_256 : decode cX9_day 256 = .ok (.getfield 194, 3) := by decide +kernel
theorem dX9_day_259 : decode cX9_day 259 = .ok (.bipush 7, 2) := by decide +kernel
theorem dX9_day_261 : decode cX9_day 261 = .ok (.irem, 1) := by decide +kernel
theorem dX9_day_262 : decode cX9_day 262 = .ok (.ifCond .ne 122, 3) := by decide +kernel
theorem dX9_day_265 : decode cX9_day 265 = .ok (.aload_n 0, 1) := by decide +kernel
theorem dX9_day_266 : decode cX9_day 266 = .ok (.getfield 31, 3) := by decide +kernel
theorem dX9_day_269 : decode cX9_day 269 = .ok (.iload 6, 2) := by decide +kernel
theorem dX9_day_271 : decode cX9_day 271 = .ok (.iaload, 1) := by decide +kernel
theorem dX9_day_272 : decode cX9_day 272 = .ok (.ifCond .eq 106, 3) := by decide +kernel
theorem dX9_day_275 : decode cX9_day 275 = .ok (.aload_n 0, 1) := by decide +kernel
theorem dX9_day_276 : decode cX9_day 276 = .ok (.iload 6, 2) := by decide +kernel
theorem dX9_day_278 : decode cX9_day 278 = .ok (.invokevirtual 234, 3) := by decide +kernel
theorem dX9_day_281 : decode cX9_day 281 = .ok (.ifCond .eq 6, 3) := by decide +kernel
theorem dX9_day_284 : decode cX9_day 284 = .ok (.goto 94, 3) := by decide +kernel
theorem dX9_day_287 : decode cX9_day 287 = .ok (.aload_n 0, 1) := by decide +kernel
theorem dX9_day_288 : decode cX9_day 288 = .ok (.iload 6, 2) := by decide +kernel
theorem dX9_day_290 : decode cX9_day 290 = .ok (.aload_n 0, 1) := by decide +kernel
theorem dX9_day_291 : decode cX9_day 291 = .ok (.getfield 194, 3) := by decide +kernel
theorem dX9_day_294 : decode cX9_day 294 = .ok (.invokevirtual 269, 3) := by decide +kernel
theorem dX9_day_297 : decode cX9_day 297 = .ok (.istore 7, 2) := by decide +kernel
theorem dX9_day_299 : decode cX9_day 299 = .ok (.iload 7, 2) := by decide +kernel
theorem dX9_day_301 : decode cX9_day 301 = .ok (.iconst 3, 1) := by decide +kernel
theorem dX9_day_302 : decode cX9_day 302 = .ok (.if_icmp .ne 35, 3) := by decide +kernel
theorem dX9_day_305 : decode cX9_day 305 = .ok (.aload_n 0, 1) := by decide +kernel
theorem dX9_day_306 : decode cX9_day 306 = .ok (.getfield 37, 3) := by decide +kernel
theorem dX9_day_309 : decode cX9_day 309 = .ok (.iload 6, 2) := by decide +kernel
theorem dX9_day_311 : decode cX9_day 311 = .ok (.bipush 10, 2) := by decide +kernel
theorem dX9_day_313 : decode cX9_day 313 = .ok (.aload_n 0, 1) := by decide +kernel
theorem dX9_day_314 : decode cX9_day 314 = .ok (.getfield 37, 3) := by decide +kernel
theorem dX9_day_317 : decode cX9_day 317 = .ok (.iload 6, 2) := by decide +kernel
theorem dX9_day_319 : decode cX9_day 319 = .ok (.iaload, 1) := by decide +kernel
theorem dX9_day_320 : decode cX9_day 320 = .ok (.iconst 2, 1) := by decide +kernel
theorem dX9_day_321 : decode cX9_day 321 = .ok (.idiv, 1) := by decide +kernel
theorem dX9_day_322 : decode cX9_day 322 = .ok (.invokestatic 216, 3) := by decide +kernel
theorem dX9_day_325 : decode cX9_day 325 = .ok (.iastore, 1) := by decide +kernel
theorem dX9_day_326 : decode cX9_day 326 = .ok (.aload_n 0, 1) := by decide +kernel
theorem dX9_day_327 : decode cX9_day 327 = .ok (.getfield 49, 3) := by decide +kernel
theorem dX9_day_330 : decode cX9_day 330 = .ok (.iload 6, 2) := by decide +kernel
theorem dX9_day_332 : decode cX9_day 332 = .ok (.dup2, 1) := by decide +kernel
theorem dX9_day_333 : decode cX9_day 333 = .ok (.iaload, 1) := by decide +kernel
theorem dX9_day_334 : decode cX9_day 334 = .ok (.iconst 1, 1) := by decide +kernel
theorem dX9_day_335 : decode cX9_day 335 = .ok (.iadd, 1) := by decide +kernel
theorem dX9_day_336 : decode cX9_day 336 = .ok (.iastore, 1) := by decide +kernel
theorem dX9_day_337 : decode cX9_day 337 = .ok (.iload 7, 2) := by decide +kernel
theorem dX9_day_339 : decode cX9_day 339 = .ok (.iconst 4, 1) := by decide +kernel
theorem dX9_day_340 : decode cX9_day 340 = .ok (.if_icmp .eq 6, 3) := by decide +kernel
theorem dX9_day_343 : decode cX9_day 343 = .ok (.goto 35, 3) := by decide +kernel
theorem dX9_day_346 : decode cX9_day 346 = .ok (.aload_n 0, 1) := by decide +kernel
theorem dX9_day_347 : decode cX9_day 347 = .ok (.dup, 1) := by decide +kernel
theorem dX9_day_348 : decode cX9_day 348 = .ok (.getfield 257, 3) := by decide +kernel
theorem dX9_day_351 : decode cX9_day 351 = .ok (.aload_n 0, 1) := by decide +kernel
theorem dX9_day_352 : decode cX9_day 352 = .ok (.getfield 31, 3) := by decide +kernel
theorem dX9_day_355 : decode cX9_day 355 = .ok (.iload 6, 2) := by decide +kernel
theorem dX9_day_357 : decode cX9_day 357 = .ok (.iaload, 1) := by decide +kernel
theorem dX9_day_358 : decode cX9_day 358 = .ok (.iadd, 1) := by decide +kernel
theorem dX9_day_359 : decode cX9_day 359 = .ok (.putfield 257, 3) := by decide +kernel
theorem dX9_day_362 : decode cX9_day 362 = .ok (.aload_n 0, 1) := by decide +kernel
theorem dX9_day_363 : decode cX9_day 363 = .ok (.getfield 31, 3) := by decide +kernel
theorem dX9_day_366 : decode cX9_day 366 = .ok (.iload 6, 2) := by decide +kernel
theorem dX9_day_368 : decode cX9_day 368 = .ok (.iconst 0, 1) := by decide +kernel
theorem dX9_day_369 : decode cX9_day 369 = .ok (.iastore, 1) := by decide +kernel
theorem dX9_day_370 : decode cX9_day 370 = .ok (.aload_n 0, 1) := by decide +kernel
theorem dX9_day_371 : decode cX9_day 371 = .ok (.getfield 52, 3) := by decide +kernel
theorem dX9_day_374 : decode cX9_day 374 = .ok (.iload 6, 2) := by decide +kernel
theorem dX9_day_376 : decode cX9_day 376 = .ok (.iconst 1, 1) := by decide +kernel
theorem dX9_day_377 : decode cX9_day 377 = .ok (.bastore, 1) := by decide +kernel
theorem dX9_day_378 : decode cX9_day 378 = .ok (.iinc 6 1, 3) := by decide +kernel
theorem dX9_day_381 : decode cX9_day 381 = .ok (.goto (-135), 3) := by decide +kernel
theorem dX9_day_384 : decode cX9_day 384 = .ok (.aload_n 0, 1) := by decide +kernel
theorem dX9_day_385 : decode cX9_day 385 = .ok (.getfield 194, 3) := by decide +kernel
theorem dX9_day_388 : decode cX9_day 388 = .ok (.ireturn, 1) := by decide +kernel
theorem dX9_bay_0 : decode cX9_bay 0 = .ok (.iload_n 1, 1) := by decide +kernel
theorem dX9_bay_1 : decode cX9_bay 1 = .ok (.invokestatic 213, 3) := by decide +kernel
theorem dX9_bay_4 : decode cX9_bay 4 = .ok (.ifCond .ne 5, 3) := by decide +kernel
theorem dX9_bay_7 : decode cX9_bay 7 = .ok (.iconst (-1), 1) := by decide +kernel
theorem dX9_bay_8 : decode cX9_bay 8 = .ok (.ireturn, 1) := by decide +kernel
theorem dX9_bay_9 : decode cX9_bay 9 = .ok (.iload_n 2, 1) := by decide +kernel
theorem dX9_bay_10 : decode cX9_bay 10 = .ok (.tableswitch 104 0 6 #[42, 49, 56, 63, 70, 77, 97], 42) := by decide +kernel
theorem dX9_bay_52 : decode cX9_bay 52 = .ok (.aload_n 0, 1) := by decide +kernel
theorem dX9_bay_53 : decode cX9_bay 53 = .ok (.getfield 7, 3) := by decide +kernel
theorem dX9_bay_56 : decode cX9_bay 56 = .ok (.iload_n 1, 1) := by decide +kernel
theorem dX9_bay_57 : decode cX9_bay 57 = .ok (.iaload, 1) := by decide +kernel
theorem dX9_bay_58 : decode cX9_bay 58 = .ok (.ireturn, 1) := by decide +kernel
theorem dX9_bay_59 : decode cX9_bay 59 = .ok (.aload_n 0, 1) := by decide +kernel
theorem dX9_bay_60 : decode cX9_bay 60 = .ok (.getfield 13, 3) := by decide +kernel
theorem dX9_bay_63 : decode cX9_bay 63 = .ok (.iload_n 1, 1) := by decide +kernel
theorem dX9_bay_64 : decode cX9_bay 64 = .ok (.iaload, 1) := by decide +kernel
theorem dX9_bay_65 : decode cX9_bay 65 = .ok (.ireturn, 1) := by decide +kernel
theorem dX9_bay_66 : decode cX9_bay 66 = .ok (.aload_n 0, 1) := by decide +kernel
theorem dX9_bay_67 : decode cX9_bay 67 = .ok (.getfield 16, 3) := by decide +kernel
theorem dX9_bay_70 : decode cX9_bay 70 = .ok (.iload_n 1, 1) := by decide +kernel
theorem dX9_bay_71 : decode cX9_bay 71 = .ok (.iaload, 1) := by decide +kernel
theorem dX9_bay_72 : decode cX9_bay 72 = .ok (.ireturn, 1) := by decide +kernel
theorem dX9_bay_73 : decode cX9_bay 73 = .ok (.aload_n 0, 1) := by decide +kernel
theorem dX9_bay_74 : decode cX9_bay 74 = .ok (.getfield 19, 3) := by decide +kernel
theorem dX9_bay_77 : decode cX9_bay 77 = .ok (.iload_n 1, 1) := by decide +kernel
theorem dX9_bay_78 : decode cX9_bay 78 = .ok (.iaload, 1) := by decide +kernel
theorem dX9_bay_79 : decode cX9_bay 79 = .ok (.ireturn, 1) := by decide +kernel
theorem dX9_bay_80 : decode cX9_bay 80 = .ok (.aload_n 0, 1) := by decide +kernel
theorem dX9_bay_81 : decode cX9_bay 81 = .ok (.getfield 22, 3) := by decide +kernel
theorem dX9_bay_84 : decode cX9_bay 84 = .ok (.iload_n 1, 1) := by decide +kernel
theorem dX9_bay_85 : decode cX9_bay 85 = .ok (.iaload, 1) := by decide +kernel
theorem dX9_bay_86 : decode cX9_bay 86 = .ok (.ireturn, 1) := by decide +kernel
theorem dX9_bay_87 : decode cX9_bay 87 = .ok (.aload_n 0, 1) := by decide +kernel
theorem dX9_bay_88 : decode cX9_bay 88 = .ok (.getfield 22, 3) := by decide +kernel
theorem dX9_bay_91 : decode cX9_bay 91 = .ok (.iload_n 1, 1) := by decide +kernel
theorem dX9_bay_92 : decode cX9_bay 92 = .ok (.iaload, 1) := by decide +kernel
theorem dX9_bay_93 : decode cX9_bay 93 = .ok (.ifCond .ne 7, 3) := by decide +kernel
theorem dX9_bay_96 : decode cX9_bay 96 = .ok (.iconst (-1), 1) := by decide +kernel
theorem dX9_bay_97 : decode cX9_bay 97 = .ok (.goto 9, 3) := by decide +kernel
theorem dX9_bay_100 : decode cX9_bay 100 = .ok (.aload_n 0, 1) := by decide +kernel
theorem dX9_bay_101 : decode cX9_bay 101 = .ok (.getfield 25, 3) := by decide +kernel
theorem dX9_bay_104 : decode cX9_bay 104 = .ok (.iload_n 1, 1) := by decide +kernel
theorem dX9_bay_105 : decode cX9_bay 105 = .ok (.iaload, 1) := by decide +kernel
theorem dX9_bay_106 : decode cX9_bay 106 = .ok (.ireturn, 1) := by decide +kernel
theorem dX9_bay_107 : decode cX9_bay 107 = .ok (.aload_n 0, 1) := by decide +kernel
theorem dX9_bay_108 : decode cX9_bay 108 = .ok (.getfield 28, 3) := by decide +kernel
theorem dX9_bay_111 : decode cX9_bay 111 = .ok (.iload_n 1, 1) := by decide +kernel
theorem dX9_bay_112 : decode cX9_bay 112 = .ok (.iaload, 1) := by decide +kernel
theorem dX9_bay_113 : decode cX9_bay 113 = .ok (.ireturn, 1) := by decide +kernel
theorem dX9_bay_114 : decode cX9_bay 114 = .ok (.iconst (-1), 1) := by decide +kernel
theorem dX9_bay_115 : decode cX9_bay 115 = .ok (.ireturn, 1) := by decide +kernel
theorem dX9_stackOf_0 : decode cX9_stackOf 0 = .ok (.aload_n 0, 1) := by decide +kernel
theorem dX9_stackOf_1 : decode cX9_stackOf 1 = .ok (.iload_n 1, 1) := by decide +kernel
theorem dX9_stackOf_2 : decode cX9_stackOf 2 = .ok (.invokevirtual 231, 3) := by decide +kernel
theorem dX9_stackOf_5 : decode cX9_stackOf 5 = .ok (.ifCond .ne 5, 3) := by decide +kernel
theorem dX9_stackOf_8 : decode cX9_stackOf 8 = .ok (.iconst (-1), 1) := by decide +kernel
theorem dX9_stackOf_9 : decode cX9_stackOf 9 = .ok (.ireturn, 1) := by decide +kernel
theorem dX9_stackOf_10 : decode cX9_stackOf 10 = .ok (.iload_n 2, 1) := by decide +kernel
theorem dX9_stackOf_11 : decode cX9_stackOf 11 = .ok (.tableswitch 117 0 8 #[49, 56, 63, 70, 77, 86, 93, 100, 107], 49) := by decide +kernel
theorem dX9_stackOf_60 : decode cX9_stackOf 60 = .ok (.aload_n 0, 1) := by decide +kernel
theorem dX9_stackOf_61 : decode cX9_stackOf 61 = .ok (.getfield 31, 3) := by decide +kernel
theorem dX9_stackOf_64 : decode cX9_stackOf 64 = .ok (.iload_n 1, 1) := by decide +kernel
theorem dX9_stackOf_65 : decode cX9_stackOf 65 = .ok (.iaload, 1) := by decide +kernel
theorem dX9_stackOf_66 : decode cX9_stackOf 66 = .ok (.ireturn, 1) := by decide +kernel
theorem dX9_stackOf_67 : decode cX9_stackOf 67 = .ok (.aload_n 0, 1) := by decide +kernel
theorem dX9_stackOf_68 : decode cX9_stackOf 68 = .ok (.getfield 34, 3) := by decide +kernel
theorem dX9_stackOf_71 : decode cX9_stackOf 71 = .ok (.iload_n 1, 1) := by decide +kernel
theorem dX9_stackOf_72 : decode cX9_stackOf 72 = .ok (.iaload, 1) := by decide +kernel
theorem dX9_stackOf_73 : decode cX9_stackOf 73 = .ok (.ireturn, 1) := by decide +kernel
theorem dX9_stackOf_74 : decode cX9_stackOf 74 = .ok (.aload_n 0, 1) := by decide +kernel
theorem dX9_stackOf_75 : decode cX9_stackOf 75 = .ok (.getfield 37, 3) := by decide +kernel
theorem dX9_stackOf_78 : decode cX9_stackOf 78 = .ok (.iload_n 1, 1) := by decide +kernel
theorem dX9_stackOf_79 : decode cX9_stackOf 79 = .ok (.iaload, 1) := by decide +kernel
theorem dX9_stackOf_80 : decode cX9_stackOf 80 = .ok (.ireturn, 1) := by decide +kernel
theorem dX9_stackOf_81 : decode cX9_stackOf 81 = .ok (.aload_n 0, 1) := by decide +kernel
theorem dX9_stackOf_82 : decode cX9_stackOf 82 = .ok (.getfield 40, 3) := by decide +kernel
theorem dX9_stackOf_85 : decode cX9_stackOf 85 = .ok (.iload_n 1, 1) := by decide +kernel
theorem dX9_stackOf_86 : decode cX9_stackOf 86 = .ok (.iaload, 1) := by decide +kernel
theorem dX9_stackOf_87 : decode cX9_stackOf 87 = .ok (.ireturn, 1) := by decide +kernel
theorem dX9_stackOf_88 : decode cX9_stackOf 88 = .ok (.aload_n 0, 1) := by decide +kernel
theorem dX9_stackOf_89 : decode cX9_stackOf 89 = .ok (.iload_n 1, 1) := by decide +kernel
theorem dX9_stackOf_90 : decode cX9_stackOf 90 = .ok (.invokevirtual 234, 3) := by decide +kernel
theorem dX9_stackOf_93 : decode cX9_stackOf 93 = .ok (.invokestatic 205, 3) := by decide +kernel
theorem dX9_stackOf_96 : decode cX9_stackOf 96 = .ok (.ireturn, 1) := by decide +kernel
theorem dX9_stackOf_97 : decode cX9_stackOf 97 = .ok (.aload_n 0, 1) := by decide +kernel
theorem dX9_stackOf_98 : decode cX9_stackOf 98 = .ok (.getfield 43, 3) := by decide +kernel
theorem dX9_stackOf_101 : decode cX9_stackOf 101 = .ok (.iload_n 1, 1) := by decide +kernel
theorem dX9_stackOf_102 : decode cX9_stackOf 102 = .ok (.iaload, 1) := by decide +kernel
theorem dX9_stackOf_103 : decode cX9_stackOf 103 = .ok (.ireturn, 1) := by decide +kernel
theorem dX9_stackOf_104 : decode cX9_stackOf 104 = .ok (.aload_n 0, 1) := by decide +kernel
theorem dX9_stackOf_105 : decode cX9_stackOf 105 = .ok (.getfield 46, 3) := by decide +kernel
theorem dX9_stackOf_108 : decode cX9_stackOf 108 = .ok (.iload_n 1, 1) := by decide +kernel
theorem dX9_stackOf_109 : decode cX9_stackOf 109 = .ok (.iaload, 1) := by decide +kernel
theorem dX9_stackOf_110 : decode cX9_stackOf 110 = .ok (.ireturn, 1) := by decide +kernel
theorem dX9_stackOf_111 : decode cX9_stackOf 111 = .ok (.aload_n 0, 1) := by decide +kernel
theorem dX9_stackOf_112 : decode cX9_stackOf 112 = .ok (.getfield 49, 3) := by decide +kernel
theorem dX9_stackOf_115 : decode cX9_stackOf 115 = .ok (.iload_n 1, 1) := by decide +kernel
theorem dX9_stackOf_116 : decode cX9_stackOf 116 = .ok (.iaload, 1) := by decide +kernel
theorem dX9_stackOf_117 : decode cX9_stackOf 117 = .ok (.ireturn, 1) := by decide +kernel
theorem dX9_stackOf_118 : decode cX9_stackOf 118 = .ok (.aload_n 0, 1) := by decide +kernel
theorem dX9_stackOf_119 : decode cX9_stackOf 119 = .ok (.getfield 52, 3) := by decide +kernel
theorem dX9_stackOf_122 : decode cX9_stackOf 122 = .ok (.iload_n 1, 1) := by decide +kernel
theorem dX9_stackOf_123 : decode cX9_stackOf 123 = .ok (.baload, 1) := by decide +kernel
theorem dX9_stackOf_124 : decode cX9_stackOf 124 = .ok (.invokestatic 205, 3) := by decide +kernel
theorem dX9_stackOf_127 : decode cX9_stackOf 127 = .ok (.ireturn, 1) := by decide +kernel
theorem dX9_stackOf_128 : decode cX9_stackOf 128 = .ok (.iconst (-1), 1) := by decide +kernel
theorem dX9_stackOf_129 : decode cX9_stackOf 129 = .ok (.ireturn, 1) := by decide +kernel
theorem dX9_layingOf_0 : decode cX9_layingOf 0 = .ok (.iconst 0, 1) := by decide +kernel
theorem dX9_layingOf_1 : decode cX9_layingOf 1 = .ok (.istore_n 2, 1) := by decide +kernel
theorem dX9_layingOf_2 : decode cX9_layingOf 2 = .ok (.iload_n 2, 1) := by decide +kernel
theorem dX9_layingOf_3 : decode cX9_layingOf 3 = .ok (.bipush 16, 2) := by decide +kernel
theorem dX9_layingOf_5 : decode cX9_layingOf 5 = .ok (.if_icmp .ge 16, 3) := by decide +kernel
theorem dX9_layingOf_8 : decode cX9_layingOf 8 = .ok (.aload_n 0, 1) := by decide +kernel
theorem dX9_layingOf_9 : decode cX9_layingOf 9 = .ok (.getfield 106, 3) := by decide +kernel
theorem dX9_layingOf_12 : decode cX9_layingOf 12 = .ok (.iload_n 2, 1) := by decide +kernel
theorem dX9_layingOf_13 : decode cX9_layingOf 13 = .ok (.iconst 0, 1) := by decide +kernel
theorem dX9_layingOf_14 : decode cX9_layingOf 14 = .ok (.bastore, 1) := by decide +kernel
theorem dX9_layingOf_15 : decode cX9_layingOf 15 = .ok (.iinc 2 1, 3) := by decide +kernel
theorem dX9_layingOf_18 : decode cX9_layingOf 18 = .ok (.goto (-16), 3) := by decide +kernel
theorem dX9_layingOf_21 : decode cX9_layingOf 21 = .ok (.iconst 0, 1) := by decide +kernel
theorem dX9_layingOf_22 : decode cX9_layingOf 22 = .ok (.istore_n 2, 1) := by decide +kernel
theorem dX9_layingOf_23 : decode cX9_layingOf 23 = .ok (.aload_n 0, 1) := by decide +kernel
theorem dX9_layingOf_24 : decode cX9_layingOf 24 = .ok (.getfield 222, 3) := by decide +kernel
theorem dX9_layingOf_27 : decode cX9_layingOf 27 = .ok (.istore_n 3, 1) := by decide +kernel
theorem dX9_layingOf_28 : decode cX9_layingOf 28 = .ok (.iconst 0, 1) := by decide +kernel
theorem dX9_layingOf_29 : decode cX9_layingOf 29 = .ok (.istore 4, 2) := by decide +kernel
theorem dX9_layingOf_31 : decode cX9_layingOf 31 = .ok (.iload 4, 2) := by decide +kernel
theorem dX9_layingOf_33 : decode cX9_layingOf 33 = .ok (.iload_n 1, 1) := by decide +kernel
theorem dX9_layingOf_34 : decode cX9_layingOf 34 = .ok (.if_icmp .ge 94, 3) := by decide +kernel
theorem dX9_layingOf_37 : decode cX9_layingOf 37 = .ok (.iload_n 2, 1) := by decide +kernel
theorem dX9_layingOf_38 : decode cX9_layingOf 38 = .ok (.iconst 5, 1) := by decide +kernel
theorem dX9_layingOf_39 : decode cX9_layingOf 39 = .ok (.aload_n 0, 1) := by decide +kernel
theorem dX9_layingOf_40 : decode cX9_layingOf 40 = .ok (.getfield 100, 3) := by decide +kernel
theorem dX9_layingOf_43 : decode cX9_layingOf 43 = .ok (.iload 4, 2) := by decide +kernel
theorem dX9_layingOf_45 : decode cX9_layingOf 45 = .ok (.iaload, 1) := by decide +kernel
theorem dX9_layingOf_46 : decode cX9_layingOf 46 = .ok (.iload_n 3, 1) := by decide +kernel
theorem dX9_layingOf_47 : decode cX9_layingOf 47 = .ok (.isub, 1) := by decide +kernel
theorem dX9_layingOf_48 : decode cX9_layingOf 48 = .ok (.invokestatic 225, 3) := by decide +kernel
theorem dX9_layingOf_51 : decode cX9_layingOf 51 = .ok (.imul, 1) := by decide +kernel
theorem dX9_layingOf_52 : decode cX9_layingOf 52 = .ok (.isub, 1) := by decide +kernel
theorem dX9_layingOf_53 : decode cX9_layingOf 53 = .ok (.istore_n 2, 1) := by decide +kernel
theorem dX9_layingOf_54 : decode cX9_layingOf 54 = .ok (.aload_n 0, 1) := by decide +kernel
theorem dX9_layingOf_55 : decode cX9_layingOf 55 = .ok (.getfield 100, 3) := by decide +kernel
theorem dX9_layingOf_58 : decode cX9_layingOf 58 = .ok (.iload 4, 2) := by decide +kernel
theorem dX9_layingOf_60 : decode cX9_layingOf 60 = .ok (.iaload, 1) := by decide +kernel
theorem dX9_layingOf_61 : decode cX9_layingOf 61 = .ok (.istore_n 3, 1) := by decide +kernel
theorem dX9_layingOf_62 : decode cX9_layingOf 62 = .ok (.iconst 0, 1) := by decide +kernel
theorem dX9_layingOf_63 : decode cX9_layingOf 63 = .ok (.iload_n 3, 1) := by decide +kernel
theorem dX9_layingOf_64 : decode cX9_layingOf 64 = .ok (.iconst 1, 1) := by decide +kernel
theorem dX9_layingOf_65 : decode cX9_layingOf 65 = .ok (.isub, 1) := by decide +kernel
theorem dX9_layingOf_66 : decode cX9_layingOf 66 = .ok (.invokestatic 216, 3) := by decide +kernel
theorem dX9_layingOf_69 : decode cX9_layingOf 69 = .ok (.istore 5, 2) := by decide +kernel
theorem dX9_layingOf_71 : decode cX9_layingOf 71 = .ok (.iload 5, 2) := by decide +kernel
theorem dX9_layingOf_73 : decode cX9_layingOf 73 = .ok (.bipush 15, 2) := by decide +kernel
theorem dX9_layingOf_75 : decode cX9_layingOf 75 = .ok (.iload_n 3, 1) := by decide +kernel
theorem dX9_layingOf_76 : decode cX9_layingOf 76 = .ok (.iconst 1, 1) := by decide +kernel
theorem dX9_layingOf_77 : decode cX9_layingOf 77 = .ok (.iadd, 1) := by decide +kernel
theorem dX9_layingOf_78 : decode cX9_layingOf 78 = .ok (.invokestatic 243, 3) := by decide +kernel
theorem dX9_layingOf_81 : decode cX9_layingOf 81 = .ok (.if_icmp .gt 41, 3) := by decide +kernel
theorem dX9_layingOf_84 : decode cX9_layingOf 84 = .ok (.iload_n 2, 1) := by decide +kernel
theorem dX9_layingOf_85 : decode cX9_layingOf 85 = .ok (.aload_n 0, 1) := by decide +kernel
theorem dX9_layingOf_86 : decode cX9_layingOf 86 = .ok (.getfield 106, 3) := by decide +kernel
theorem dX9_layingOf_89 : decode cX9_layingOf 89 = .ok (.iload 5, 2) := by decide +kernel
theorem dX9_layingOf_91 : decode cX9_layingOf 91 = .ok (.baload, 1) := by decide +kernel
theorem dX9_layingOf_92 : decode cX9_layingOf 92 = .ok (.ifCond .eq 7, 3) := by decide +kernel
theorem dX9_layingOf_95 : decode cX9_layingOf 95 = .ok (.iconst 0, 1) := by decide +kernel
theorem dX9_layingOf_96 : decode cX9_layingOf 96 = .ok (.goto 10, 3) := by decide +kernel
theorem dX9_layingOf_99 : decode cX9_layingOf 99 = .ok (.aload_n 0, 1) := by decide +kernel
theorem dX9_layingOf_100 : decode cX9_layingOf 100 = .ok (.getfield 16, 3) := by decide +kernel
theorem dX9_layingOf_103 : decode cX9_layingOf 103 = .ok (.iload 5, 2) := by decide +kernel
theorem dX9_layingOf_105 : decode cX9_layingOf 105 = .ok (.iaload, 1) := by decide +kernel
theorem dX9_layingOf_106 : decode cX9_layingOf 106 = .ok (.iadd, 1) := by decide +kernel
theorem dX9_layingOf_107 : decode cX9_layingOf 107 = .ok (.istore_n 2, 1) := by decide +kernel
theorem dX9_layingOf_108 : decode cX9_layingOf 108 = .ok (.aload_n 0, 1) := by decide +kernel
theorem dX9_layingOf_109 : decode cX9_layingOf 109 = .ok (.getfield 106, 3) := by decide +kernel
theorem dX9_layingOf_112 : decode cX9_layingOf 112 = .ok (.iload 5, 2) := by decide +kernel
theorem dX9_layingOf_114 : decode cX9_layingOf 114 = .ok (.iconst 1, 1) := by decide +kernel
theorem dX9_layingOf_115 : decode cX9_layingOf 115 = .ok (.bastore, 1) := by decide +kernel
theorem dX9_layingOf_116 : decode cX9_layingOf 116 = .ok (.iinc 5 1, 3) := by decide +kernel
theorem dX9_layingOf_119 : decode cX9_layingOf 119 = .ok (.goto (-48), 3) := by decide +kernel
theorem dX9_layingOf_122 : decode cX9_layingOf 122 = .ok (.iinc 4 1, 3) := by decide +kernel
theorem dX9_layingOf_125 : decode cX9_layingOf 125 = .ok (.goto (-94), 3) := by decide +kernel
theorem dX9_layingOf_128 : decode cX9_layingOf 128 = .ok (.iload_n 2, 1) := by decide +kernel
theorem dX9_layingOf_129 : decode cX9_layingOf 129 = .ok (.ireturn, 1) := by decide +kernel
theorem dX9_best_0 : decode cX9_best 0 = .ok (.iload_n 1, 1) := by decide +kernel
theorem dX9_best_1 : decode cX9_best 1 = .ok (.iconst 1, 1) := by decide +kernel
theorem dX9_best_2 : decode cX9_best 2 = .ok (.iconst 3, 1) := by decide +kernel
theorem dX9_best_3 : decode cX9_best 3 = .ok (.invokestatic 109, 3) := by decide +kernel
theorem dX9_best_6 : decode cX9_best 6 = .ok (.ifCond .eq 14, 3) := by decide +kernel
theorem dX9_best_9 : decode cX9_best 9 = .ok (.iload_n 2, 1) := by decide +kernel
theorem dX9_best_10 : decode cX9_best 10 = .ok (.iconst (-1), 1) := by decide +kernel
theorem dX9_best_11 : decode cX9_best 11 = .ok (.iload_n 1, 1) := by decide +kernel
theorem dX9_best_12 : decode cX9_best 12 = .ok (.iconst 1, 1) := by decide +kernel
theorem dX9_best_13 : decode cX9_best 13 = .ok (.isub, 1) := by decide +kernel
theorem dX9_best_14 : decode cX9_best 14 = .ok (.invokestatic 109, 3) := by decide +kernel
theorem dX9_best_17 : decode cX9_best 17 = .ok (.ifCond .ne 5, 3) := by decide +kernel
theorem dX9_best_20 : decode cX9_best 20 = .ok (.iconst (-1), 1) := by decide +kernel
theorem dX9_best_21 : decode cX9_best 21 = .ok (.ireturn, 1) := by decide +kernel
theorem dX9_best_22 : decode cX9_best 22 = .ok (.iload_n 1, 1) := by decide +kernel
theorem dX9_best_23 : decode cX9_best 23 = .ok (.iconst 1, 1) := by decide +kernel
theorem dX9_best_24 : decode cX9_best 24 = .ok (.if_icmp .ne 8, 3) := by decide +kernel
theorem dX9_best_27 : decode cX9_best 27 = .ok (.bipush 16, 2) := by decide +kernel
theorem dX9_best_29 : decode cX9_best 29 = .ok (.goto 17, 3) := by decide +kernel
theorem dX9_best_32 : decode cX9_best 32 = .ok (.iload_n 1, 1) := by decide +kernel
theorem dX9_best_33 : decode cX9_best 33 = .ok (.iconst 2, 1) := by decide +kernel
theorem dX9_best_34 : decode cX9_best 34 = .ok (.if_icmp .ne 9, 3) := by decide +kernel
theorem dX9_best_37 : decode cX9_best 37 = .ok (.sipush 256, 3) := by decide +kernel
theorem dX9_best_40 : decode cX9_best 40 = .ok (.goto 6, 3) := by decide +kernel
theorem dX9_best_43 : decode cX9_best 43 = .ok (.sipush 4096, 3) := by decide +kernel
theorem dX9_best_46 : decode cX9_best 46 = .ok (.istore_n 3, 1) := by decide +kernel
theorem dX9_best_47 : decode cX9_best 47 = .ok (.iconst 0, 1) := by decide +kernel
theorem dX9_best_48 : decode cX9_best 48 = .ok (.istore 4, 2) := by decide +kernel
theorem dX9_best_50 : decode cX9_best 50 = .ok (.iconst 0, 1) := by decide +kernel
theorem dX9_best_51 : decode cX9_best 51 = .ok (.istore 5, 2) := by decide +kernel
theorem dX9_best_53 : decode cX9_best 53 = .ok (.iload 5, 2) := by decide +kernel
theorem dX9_best_55 : decode cX9_best 55 = .ok (.iload_n 3, 1) := by decide +kernel
theorem dX9_best_56 : decode cX9_best 56 = .ok (.if_icmp .ge 103, 3) := by decide +kernel
theorem dX9_best_59 : decode cX9_best 59 = .ok (.iload 5, 2) := by decide +kernel
theorem dX9_best_61 : decode cX9_best 61 = .ok (.istore 6, 2) := by decide +kernel
theorem dX9_best_63 : decode cX9_best 63 = .ok (.iload_n 1, 1) := by decide +kernel
theorem dX9_best_64 : decode cX9_best 64 = .ok (.iconst 1, 1) := by decide +kernel
theorem dX9_best_65 : decode cX9_best 65 = .ok (.isub, 1) := by decide +kernel
theorem dX9_best_66 : decode cX9_best 66 = .ok (.istore 7, 2) := by decide +kernel
theorem dX9_best_68 : decode cX9_best 68 = .ok (.iload 7, 2) := by decide +kernel
theorem dX9_best_70 : decode cX9_best 70 = .ok (.ifCond .lt 28, 3) := by decide +kernel
theorem dX9_best_73 : decode cX9_best 73 = .ok (.aload_n 0, 1) := by decide +kernel
theorem dX9_best_74 : decode cX9_best 74 = .ok (.getfield 100, 3) := by decide +kernel
theorem dX9_best_77 : decode cX9_best 77 = .ok (.iload 7, 2) := by decide +kernel
theorem dX9_best_79 : decode cX9_best 79 = .ok (.iload 6, 2) := by decide +kernel
theorem dX9_best_81 : decode cX9_best 81 = .ok (.bipush 16, 2) := by decide +kernel
theorem dX9_best_83 : decode cX9_best 83 = .ok (.irem, 1) := by decide +kernel
theorem dX9_best_84 : decode cX9_best 84 = .ok (.iastore, 1) := by decide +kernel
theorem dX9_best_85 : decode cX9_best 85 = .ok (.iload 6, 2) := by decide +kernel
theorem dX9_best_87 : decode cX9_best 87 = .ok (.bipush 16, 2) := by decide +kernel
theorem dX9_best_89 : decode cX9_best 89 = .ok (.idiv, 1) := by decide +kernel
theorem dX9_best_90 : decode cX9_best 90 = .ok (.istore 6, 2) := by decide +kernel
theorem dX9_best_92 : decode cX9_best 92 = .ok (.iinc 7 (-1), 3) := by decide +kernel
theorem dX9_best_95 : decode cX9_best 95 = .ok (.goto (-27), 3) := by decide +kernel
theorem dX9_best_98 : decode cX9_best 98 = .ok (.aload_n 0, 1) := by decide +kernel
theorem dX9_best_99 : decode cX9_best 99 = .ok (.iload_n 1, 1) := by decide +kernel
theorem dX9_best_100 : decode cX9_best 100 = .ok (.invokevirtual 272, 3) := by decide +kernel
theorem dX9_best_103 : decode cX9_best 103 = .ok (.istore 7, 2) := by decide +kernel
theorem dX9_best_105 : decode cX9_best 105 = .ok (.iload 5, 2) := by decide +kernel
theorem dX9_best_107 : decode cX9_best 107 = .ok (.ifCond .le 13, 3) := by decide +kernel
theorem dX9_best_110 : decode cX9_best 110 = .ok (.iload 7, 2) := by decide +kernel
theorem dX9_best_112 : decode cX9_best 112 = .ok (.iload 4, 2) := by decide +kernel
theorem dX9_best_114 : decode cX9_best 114 = .ok (.if_icmp .gt 6, 3) := by decide +kernel
theorem dX9_best_117 : decode cX9_best 117 = .ok (.goto 36, 3) := by decide +kernel
theorem dX9_best_120 : decode cX9_best 120 = .ok (.iload 7, 2) := by decide +kernel
theorem dX9_best_122 : decode cX9_best 122 = .ok (.istore 4, 2) := by decide +kernel
theorem dX9_best_124 : decode cX9_best 124 = .ok (.iconst 0, 1) := by decide +kernel
theorem dX9_best_125 : decode cX9_best 125 = .ok (.istore 8, 2) := by decide +kernel
theorem dX9_best_127 : decode cX9_best 127 = .ok (.iload 8, 2) := by decide +kernel
theorem dX9_best_129 : decode cX9_best 129 = .ok (.iload_n 1, 1) := by decide +kernel
theorem dX9_best_130 : decode cX9_best 130 = .ok (.if_icmp .ge 23, 3) := by decide +kernel
theorem dX9_best_133 : decode cX9_best 133 = .ok (.aload_n 0, 1) := by decide +kernel
theorem dX9_best_134 : decode cX9_best 134 = .ok (.getfield 103, 3) := by decide +kernel
theorem dX9_best_137 : decode cX9_best 137 = .ok (.iload 8, 2) := by decide +kernel
theorem dX9_best_139 : decode cX9_best 139 = .ok (.aload_n 0, 1) := by decide +kernel
theorem dX9_best_140 : decode cX9_best 140 = .ok (.getfield 100, 3) := by decide +kernel
theorem dX9_best_143 : decode cX9_best 143 = .ok (.iload 8, 2) := by decide +kernel
theorem dX9_best_145 : decode cX9_best 145 = .ok (.iaload, 1) := by decide +kernel
theorem dX9_best_146 : decode cX9_best 146 = .ok (.iastore, 1) := by decide +kernel
theorem dX9_best_147 : decode cX9_best 147 = .ok (.iinc 8 1, 3) := by decide +kernel
theorem dX9_best_150 : decode cX9_best 150 = .ok (.goto (-23), 3) := by decide +kernel
theorem dX9_best_153 : decode cX9_best 153 = .ok (.iinc 5 1, 3) := by decide +kernel
theorem dX9_best_156 : decode cX9_best 156 = .ok (.goto (-103), 3) := by decide +kernel
theorem dX9_best_159 : decode cX9_best 159 = .ok (.iload_n 2, 1) := by decide +kernel
theorem dX9_best_160 : decode cX9_best 160 = .ok (.iconst (-1), 1) := by decide +kernel
theorem dX9_best_161 : decode cX9_best 161 = .ok (.if_icmp .ne 8, 3) := by decide +kernel
theorem dX9_best_164 : decode cX9_best 164 = .ok (.iload 4, 2) := by decide +kernel
theorem dX9_best_166 : decode cX9_best 166 = .ok (.goto 9, 3) := by decide +kernel
theorem dX9_best_169 : decode cX9_best 169 = .ok (.aload_n 0, 1) := by decide +kernel
theorem dX9_best_170 : decode cX9_best 170 = .ok (.getfield 103, 3) := by decide +kernel
theorem dX9_best_173 : decode cX9_best 173 = .ok (.iload_n 2, 1) := by decide +kernel
theorem dX9_best_174 : decode cX9_best 174 = .ok (.iaload, 1) := by decide +kernel
theorem dX9_best_175 : decode cX9_best 175 = .ok (.ireturn, 1) := by decide +kernel
theorem dX9_lasts_0 : decode cX9_lasts 0 = .ok (.aload_n 0, 1) := by decide +kernel
theorem dX9_lasts_1 : decode cX9_lasts 1 = .ok (.getfield 257, 3) := by decide +kernel
theorem dX9_lasts_4 : decode cX9_lasts 4 = .ok (.istore_n 1, 1) := by decide +kernel
theorem dX9_lasts_5 : decode cX9_lasts 5 = .ok (.iconst 0, 1) := by decide +kernel
theorem dX9_lasts_6 : decode cX9_lasts 6 = .ok (.istore_n 2, 1) := by decide +kernel
theorem dX9_lasts_7 : decode cX9_lasts 7 = .ok (.iload_n 2, 1) := by decide +kernel
theorem dX9_lasts_8 : decode cX9_lasts 8 = .ok (.aload_n 0, 1) := by decide +kernel
theorem dX9_lasts_9 : decode cX9_lasts 9 = .ok (.getfield 113, 3) := by decide +kernel
theorem dX9_lasts_12 : decode cX9_lasts 12 = .ok (.if_icmp .ge 30, 3) := by decide +kernel
theorem dX9_lasts_15 : decode cX9_lasts 15 = .ok (.iload_n 1, 1) := by decide +kernel
theorem dX9_lasts_16 : decode cX9_lasts 16 = .ok (.aload_n 0, 1) := by decide +kernel
theorem dX9_lasts_17 : decode cX9_lasts 17 = .ok (.iload_n 2, 1) := by decide +kernel
theorem dX9_lasts_18 : decode cX9_lasts 18 = .ok (.invokevirtual 234, 3) := by decide +kernel
theorem dX9_lasts_21 : decode cX9_lasts 21 = .ok (.ifCond .eq 7, 3) := by decide +kernel
theorem dX9_lasts_24 : decode cX9_lasts 24 = .ok (.iconst 0, 1) := by decide +kernel
theorem dX9_lasts_25 : decode cX9_lasts 25 = .ok (.goto 9, 3) := by decide +kernel
theorem dX9_lasts_28 : decode cX9_lasts 28 = .ok (.aload_n 0, 1) := by decide +kernel
theorem dX9_lasts_29 : decode cX9_lasts 29 = .ok (.getfield 31, 3) := by decide +kernel
theorem dX9_lasts_32 : decode cX9_lasts 32 = .ok (.iload_n 2, 1) := by decide +kernel
theorem dX9_lasts_33 : decode cX9_lasts 33 = .ok (.iaload, 1) := by decide +kernel
theorem dX9_lasts_34 : decode cX9_lasts 34 = .ok (.iadd, 1) := by decide +kernel
theorem dX9_lasts_35 : decode cX9_lasts 35 = .ok (.istore_n 1, 1) := by decide +kernel
theorem dX9_lasts_36 : decode cX9_lasts 36 = .ok (.iinc 2 1, 3) := by decide +kernel
theorem dX9_lasts_39 : decode cX9_lasts 39 = .ok (.goto (-32), 3) := by decide +kernel
theorem dX9_lasts_42 : decode cX9_lasts 42 = .ok (.aload_n 0, 1) := by decide +kernel
theorem dX9_lasts_43 : decode cX9_lasts 43 = .ok (.getfield 240, 3) := by decide +kernel
theorem dX9_lasts_46 : decode cX9_lasts 46 = .ok (.ifCond .ne 7, 3) := by decide +kernel
theorem dX9_lasts_49 : decode cX9_lasts 49 = .ok (.iconst (-1), 1) := by decide +kernel
theorem dX9_lasts_50 : decode cX9_lasts 50 = .ok (.goto 9, 3) := by decide +kernel
theorem dX9_lasts_53 : decode cX9_lasts 53 = .ok (.iload_n 1, 1) := by decide +kernel
theorem dX9_lasts_54 : decode cX9_lasts 54 = .ok (.aload_n 0, 1) := by decide +kernel
theorem dX9_lasts_55 : decode cX9_lasts 55 = .ok (.getfield 240, 3) := by decide +kernel
theorem dX9_lasts_58 : decode cX9_lasts 58 = .ok (.idiv, 1) := by decide +kernel
theorem dX9_lasts_59 : decode cX9_lasts 59 = .ok (.ireturn, 1) := by decide +kernel
theorem dX9_count_0 : decode cX9_count 0 = .ok (.iconst 0, 1) := by decide +kernel
theorem dX9_count_1 : decode cX9_count 1 = .ok (.istore_n 2, 1) := by decide +kernel
theorem dX9_count_2 : decode cX9_count 2 = .ok (.iload_n 1, 1) := by decide +kernel
theorem dX9_count_3 : decode cX9_count 3 = .ok (.tableswitch 152 0 12 #[65, 70, 75, 80, 85, 90, 95, 100, 105, 110, 137, 142, 147], 65) := by decide +kernel
theorem dX9_count_68 : decode cX9_count 68 = .ok (.aload_n 0, 1) := by decide +kernel
theorem dX9_count_69 : decode cX9_count 69 = .ok (.getfield 194, 3) := by decide +kernel
theorem dX9_count_72 : decode cX9_count 72 = .ok (.ireturn, 1) := by decide +kernel
theorem dX9_count_73 : decode cX9_count 73 = .ok (.aload_n 0, 1) := by decide +kernel
theorem dX9_count_74 : decode cX9_count 74 = .ok (.getfield 222, 3) := by decide +kernel
theorem dX9_count_77 : decode cX9_count 77 = .ok (.ireturn, 1) := by decide +kernel
theorem dX9_count_78 : decode cX9_count 78 = .ok (.aload_n 0, 1) := by decide +kernel
theorem dX9_count_79 : decode cX9_count 79 = .ok (.getfield 237, 3) := by decide +kernel
theorem dX9_count_82 : decode cX9_count 82 = .ok (.ireturn, 1) := by decide +kernel
theorem dX9_count_83 : decode cX9_count 83 = .ok (.aload_n 0, 1) := by decide +kernel
theorem dX9_count_84 : decode cX9_count 84 = .ok (.getfield 240, 3) := by decide +kernel
theorem dX9_count_87 : decode cX9_count 87 = .ok (.ireturn, 1) := by decide +kernel
theorem dX9_count_88 : decode cX9_count 88 = .ok (.aload_n 0, 1) := by decide +kernel
theorem dX9_count_89 : decode cX9_count 89 = .ok (.getfield 257, 3) := by decide +kernel
theorem dX9_count_92 : decode cX9_count 92 = .ok (.ireturn, 1) := by decide +kernel
theorem dX9_count_93 : decode cX9_count 93 = .ok (.aload_n 0, 1) := by decide +kernel
theorem dX9_count_94 : decode cX9_count 94 = .ok (.getfield 260, 3) := by decide +kernel
theorem dX9_count_97 : decode cX9_count 97 = .ok (.ireturn, 1) := by decide +kernel
theorem dX9_count_98 : decode cX9_count 98 = .ok (.aload_n 0, 1) := by decide +kernel
theorem dX9_count_99 : decode cX9_count 99 = .ok (.getfield 263, 3) := by decide +kernel
theorem dX9_count_102 : decode cX9_count 102 = .ok (.ireturn, 1) := by decide +kernel
theorem dX9_count_103 : decode cX9_count 103 = .ok (.aload_n 0, 1) := by decide +kernel
theorem dX9_count_104 : decode cX9_count 104 = .ok (.getfield 266, 3) := by decide +kernel
theorem dX9_count_107 : decode cX9_count 107 = .ok (.ireturn, 1) := by decide +kernel
theorem dX9_count_108 : decode cX9_count 108 = .ok (.aload_n 0, 1) := by decide +kernel
theorem dX9_count_109 : decode cX9_count 109 = .ok (.getfield 246, 3) := by decide +kernel
theorem dX9_count_112 : decode cX9_count 112 = .ok (.ireturn, 1) := by decide +kernel
theorem dX9_count_113 : decode cX9_count 113 = .ok (.iconst 0, 1) := by decide +kernel
theorem dX9_count_114 : decode cX9_count 114 = .ok (.istore_n 3, 1) := by decide +kernel
theorem dX9_count_115 : decode cX9_count 115 = .ok (.iload_n 3, 1) := by decide +kernel
theorem dX9_count_116 : decode cX9_count 116 = .ok (.aload_n 0, 1) := by decide +kernel
theorem dX9_count_117 : decode cX9_count 117 = .ok (.getfield 113, 3) := by decide +kernel
theorem dX9_count_120 : decode cX9_count 120 = .ok (.if_icmp .ge 18, 3) := by decide +kernel
theorem dX9_count_123 : decode cX9_count 123 = .ok (.iload_n 2, 1) := by decide +kernel
theorem dX9_count_124 : decode cX9_count 124 = .ok (.aload_n 0, 1) := by decide +kernel
theorem dX9_count_125 : decode cX9_count 125 = .ok (.getfield 31, 3) := by decide +kernel
theorem dX9_count_128 : decode cX9_count 128 = .ok (.iload_n 3, 1) := by decide +kernel
theorem dX9_count_129 : decode cX9_count 129 = .ok (.iaload, 1) := by decide +kernel
theorem dX9_count_130 : decode cX9_count 130 = .ok (.iadd, 1) := by decide +kernel
theorem dX9_count_131 : decode cX9_count 131 = .ok (.istore_n 2, 1) := by decide +kernel
theorem dX9_count_132 : decode cX9_count 132 = .ok (.iinc 3 1, 3) := by decide +kernel
theorem dX9_count_135 : decode cX9_count 135 = .ok (.goto (-20), 3) := by decide +kernel
theorem dX9_count_138 : decode cX9_count 138 = .ok (.iload_n 2, 1) := by decide +kernel
theorem dX9_count_139 : decode cX9_count 139 = .ok (.ireturn, 1) := by decide +kernel
theorem dX9_count_140 : decode cX9_count 140 = .ok (.aload_n 0, 1) := by decide +kernel
theorem dX9_count_141 : decode cX9_count 141 = .ok (.getfield 113, 3) := by decide +kernel
theorem dX9_count_144 : decode cX9_count 144 = .ok (.ireturn, 1) := by decide +kernel
theorem dX9_count_145 : decode cX9_count 145 = .ok (.aload_n 0, 1) := by decide +kernel
theorem dX9_count_146 : decode cX9_count 146 = .ok (.getfield 188, 3) := by decide +kernel
theorem dX9_count_149 : decode cX9_count 149 = .ok (.ireturn, 1) := by decide +kernel
theorem dX9_count_150 : decode cX9_count 150 = .ok (.aload_n 0, 1) := by decide +kernel
theorem dX9_count_151 : decode cX9_count 151 = .ok (.getfield 116, 3) := by decide +kernel
theorem dX9_count_154 : decode cX9_count 154 = .ok (.ireturn, 1) := by decide +kernel
theorem dX9_count_155 : decode cX9_count 155 = .ok (.iconst (-1), 1) := by decide +kernel
theorem dX9_count_156 : decode cX9_count 156 = .ok (.ireturn, 1) := by decide +kernel
theorem dJ9_abs_0f7a4_0 : decode cJ9_abs_0f7a4 0 = .ok (.iload_n 0, 1) := by decide +kernel
theorem dJ9_abs_0f7a4_1 : decode cJ9_abs_0f7a4 1 = .ok (.ifCond .ge 8, 3) := by decide +kernel
theorem dJ9_abs_0f7a4_4 : decode cJ9_abs_0f7a4 4 = .ok (.iload_n 0, 1) := by decide +kernel
theorem dJ9_abs_0f7a4_5 : decode cJ9_abs_0f7a4 5 = .ok (.ineg, 1) := by decide +kernel
theorem dJ9_abs_0f7a4_6 : decode cJ9_abs_0f7a4 6 = .ok (.goto 4, 3) := by decide +kernel
theorem dJ9_abs_0f7a4_9 : decode cJ9_abs_0f7a4 9 = .ok (.iload_n 0, 1) := by decide +kernel
theorem dJ9_abs_0f7a4_10 : decode cJ9_abs_0f7a4 10 = .ok (.ireturn, 1) := by decide +kernel
theorem dJ9_max_7cf53_0 : decode cJ9_max_7cf53 0 = .ok (.iload_n 0, 1) := by decide +kernel
theorem dJ9_max_7cf53_1 : decode cJ9_max_7cf53 1 = .ok (.iload_n 1, 1) := by decide +kernel
theorem dJ9_max_7cf53_2 : decode cJ9_max_7cf53 2 = .ok (.if_icmp .lt 7, 3) := by decide +kernel
theorem dJ9_max_7cf53_5 : decode cJ9_max_7cf53 5 = .ok (.iload_n 0, 1) := by decide +kernel
theorem dJ9_max_7cf53_6 : decode cJ9_max_7cf53 6 = .ok (.goto 4, 3) := by decide +kernel
theorem dJ9_max_7cf53_9 : decode cJ9_max_7cf53 9 = .ok (.iload_n 1, 1) := by decide +kernel
theorem dJ9_max_7cf53_10 : decode cJ9_max_7cf53 10 = .ok (.ireturn, 1) := by decide +kernel
theorem dJ9_min_7cf53_0 : decode cJ9_min_7cf53 0 = .ok (.iload_n 0, 1) := by decide +kernel
theorem dJ9_min_7cf53_1 : decode cJ9_min_7cf53 1 = .ok (.iload_n 1, 1) := by decide +kernel
theorem dJ9_min_7cf53_2 : decode cJ9_min_7cf53 2 = .ok (.if_icmp .gt 7, 3) := by decide +kernel
theorem dJ9_min_7cf53_5 : decode cJ9_min_7cf53 5 = .ok (.iload_n 0, 1) := by decide +kernel
theorem dJ9_min_7cf53_6 : decode cJ9_min_7cf53 6 = .ok (.goto 4, 3) := by decide +kernel
theorem dJ9_min_7cf53_9 : decode cJ9_min_7cf53 9 = .ok (.iload_n 1, 1) := by decide +kernel
theorem dJ9_min_7cf53_10 : decode cJ9_min_7cf53 10 = .ok (.ireturn, 1) := by decide +kernel
theorem dJ0_length_8abf5_0 : decode cJ0_length_8abf5 0 = .ok (.aload_n 0, 1) := by decide +kernel
theorem dJ0_length_8abf5_1 : decode cJ0_length_8abf5 1 = .ok (.getfield 9, 3) := by decide +kernel
theorem dJ0_length_8abf5_4 : decode cJ0_length_8abf5 4 = .ok (.arraylength, 1) := by decide +kernel
theorem dJ0_length_8abf5_5 : decode cJ0_length_8abf5 5 = .ok (.aload_n 0, 1) := by decide +kernel
theorem dJ0_length_8abf5_6 : decode cJ0_length_8abf5 6 = .ok (.invokevirtual 335, 3) := by decide +kernel
theorem dJ0_length_8abf5_9 : decode cJ0_length_8abf5 9 = .ok (.ishr, 1) := by decide +kernel
theorem dJ0_length_8abf5_10 : decode cJ0_length_8abf5 10 = .ok (.ireturn, 1) := by decide +kernel
theorem dJ0_charAt_5068e_0 : decode cJ0_charAt_5068e 0 = .ok (.aload_n 0, 1) := by decide +kernel
theorem dJ0_charAt_5068e_1 : decode cJ0_charAt_5068e 1 = .ok (.invokevirtual 492, 3) := by decide +kernel
theorem dJ0_charAt_5068e_4 : decode cJ0_charAt_5068e 4 = .ok (.ifCond .eq 12, 3) := by decide +kernel
theorem dJ0_charAt_5068e_7 : decode cJ0_charAt_5068e 7 = .ok (.aload_n 0, 1) := by decide +kernel
theorem dJ0_charAt_5068e_8 : decode cJ0_charAt_5068e 8 = .ok (.getfield 9, 3) := by decide +kernel
theorem dJ0_charAt_5068e_11 : decode cJ0_charAt_5068e 11 = .ok (.iload_n 1, 1) := by decide +kernel
theorem dJ0_charAt_5068e_12 : decode cJ0_charAt_5068e 12 = .ok (.invokestatic 495, 3) := by decide +kernel
theorem dJ0_charAt_5068e_15 : decode cJ0_charAt_5068e 15 = .ok (.ireturn, 1) := by decide +kernel
theorem dJ0_charAt_5068e_16 : decode cJ0_charAt_5068e 16 = .ok (.aload_n 0, 1) := by decide +kernel
theorem dJ0_charAt_5068e_17 : decode cJ0_charAt_5068e 17 = .ok (.getfield 9, 3) := by decide +kernel
theorem dJ0_charAt_5068e_20 : decode cJ0_charAt_5068e 20 = .ok (.iload_n 1, 1) := by decide +kernel
theorem dJ0_charAt_5068e_21 : decode cJ0_charAt_5068e 21 = .ok (.invokestatic 498, 3) := by decide +kernel
theorem dJ0_charAt_5068e_24 : decode cJ0_charAt_5068e 24 = .ok (.ireturn, 1) := by decide +kernel
theorem dJ0_coder_7d493_0 : decode cJ0_coder_7d493 0 = .ok (.getstatic 38, 3) := by decide +kernel
theorem dJ0_coder_7d493_3 : decode cJ0_coder_7d493 3 = .ok (.ifCond .eq 10, 3) := by decide +kernel
theorem dJ0_coder_7d493_6 : decode cJ0_coder_7d493 6 = .ok (.aload_n 0, 1) := by decide +kernel
theorem dJ0_coder_7d493_7 : decode cJ0_coder_7d493 7 = .ok (.getfield 15, 3) := by decide +kernel
theorem dJ0_coder_7d493_10 : decode cJ0_coder_7d493 10 = .ok (.goto 4, 3) := by decide +kernel
theorem dJ0_coder_7d493_13 : decode cJ0_coder_7d493 13 = .ok (.iconst 1, 1) := by decide +kernel
theorem dJ0_coder_7d493_14 : decode cJ0_coder_7d493 14 = .ok (.ireturn, 1) := by decide +kernel
theorem dJ0_isLatin1_aae02_0 : decode cJ0_isLatin1_aae02 0 = .ok (.getstatic 38, 3) := by decide +kernel
theorem dJ0_isLatin1_aae02_3 : decode cJ0_isLatin1_aae02 3 = .ok (.ifCond .eq 14, 3) := by decide +kernel
theorem dJ0_isLatin1_aae02_6 : decode cJ0_isLatin1_aae02 6 = .ok (.aload_n 0, 1) := by decide +kernel
theorem dJ0_isLatin1_aae02_7 : decode cJ0_isLatin1_aae02 7 = .ok (.getfield 15, 3) := by decide +kernel
theorem dJ0_isLatin1_aae02_10 : decode cJ0_isLatin1_aae02 10 = .ok (.ifCond .ne 7, 3) := by decide +kernel
theorem dJ0_isLatin1_aae02_13 : decode cJ0_isLatin1_aae02 13 = .ok (.iconst 1, 1) := by decide +kernel
theorem dJ0_isLatin1_aae02_14 : decode cJ0_isLatin1_aae02 14 = .ok (.goto 4, 3) := by decide +kernel
theorem dJ0_isLatin1_aae02_17 : decode cJ0_isLatin1_aae02 17 = .ok (.iconst 0, 1) := by decide +kernel
theorem dJ0_isLatin1_aae02_18 : decode cJ0_isLatin1_aae02 18 = .ok (.ireturn, 1) := by decide +kernel
theorem dJ0_checkIndex_df160_0 : decode cJ0_checkIndex_df160 0 = .ok (.iload_n 0, 1) := by decide +kernel
theorem dJ0_checkIndex_df160_1 : decode cJ0_checkIndex_df160 1 = .ok (.iload_n 1, 1) := by decide +kernel
theorem dJ0_checkIndex_df160_2 : decode cJ0_checkIndex_df160 2 = .ok (.getstatic 1053, 3) := by decide +kernel
theorem dJ0_checkIndex_df160_5 : decode cJ0_checkIndex_df160 5 = .ok (.invokestatic 1059, 3) := by decide +kernel
theorem dJ0_checkIndex_df160_8 : decode cJ0_checkIndex_df160 8 = .ok (.pop, 1) := by decide +kernel
theorem dJ0_checkIndex_df160_9 : decode cJ0_checkIndex_df160 9 = .ok (.return_, 1) := by decide +kernel
theorem dJ1_charAt_3b067_0 : decode cJ1_charAt_3b067 0 = .ok (.iload_n 1, 1) := by decide +kernel
theorem dJ1_charAt_3b067_1 : decode cJ1_charAt_3b067 1 = .ok (.aload_n 0, 1) := by decide +kernel
theorem dJ1_charAt_3b067_2 : decode cJ1_charAt_3b067 2 = .ok (.arraylength, 1) := by decide +kernel
theorem dJ1_charAt_3b067_3 : decode cJ1_charAt_3b067 3 = .ok (.invokestatic 9, 3) := by decide +kernel
theorem dJ1_charAt_3b067_6 : decode cJ1_charAt_3b067 6 = .ok (.aload_n 0, 1) := by decide +kernel
theorem dJ1_charAt_3b067_7 : decode cJ1_charAt_3b067 7 = .ok (.iload_n 1, 1) := by decide +kernel
theorem dJ1_charAt_3b067_8 : decode cJ1_charAt_3b067 8 = .ok (.baload, 1) := by decide +kernel
theorem dJ1_charAt_3b067_9 : decode cJ1_charAt_3b067 9 = .ok (.sipush 255, 3) := by decide +kernel
theorem dJ1_charAt_3b067_12 : decode cJ1_charAt_3b067 12 = .ok (.iand, 1) := by decide +kernel
theorem dJ1_charAt_3b067_13 : decode cJ1_charAt_3b067 13 = .ok (.i2c, 1) := by decide +kernel
theorem dJ1_charAt_3b067_14 : decode cJ1_charAt_3b067 14 = .ok (.ireturn, 1) := by decide +kernel
theorem dJ2_getChar_3b067_0 : decode cJ2_getChar_3b067 0 = .ok (.getstatic 44, 3) := by decide +kernel
theorem dJ2_getChar_3b067_3 : decode cJ2_getChar_3b067 3 = .ok (.ifCond .ne 25, 3) := by decide +kernel
theorem dJ2_getChar_3b067_6 : decode cJ2_getChar_3b067 6 = .ok (.iload_n 1, 1) := by decide +kernel
theorem dJ2_getChar_3b067_7 : decode cJ2_getChar_3b067 7 = .ok (.ifCond .lt 11, 3) := by decide +kernel
theorem dJ2_getChar_3b067_10 : decode cJ2_getChar_3b067 10 = .ok (.iload_n 1, 1) := by decide +kernel
theorem dJ2_getChar_3b067_11 : decode cJ2_getChar_3b067 11 = .ok (.aload_n 0, 1) := by decide +kernel
theorem dJ2_getChar_3b067_12 : decode cJ2_getChar_3b067 12 = .ok (.invokestatic 48, 3) := by decide +kernel
theorem dJ2_getChar_3b067_15 : decode cJ2_getChar_3b067 15 = .ok (.if_icmp .lt 13, 3) := by decide +kernel
theorem dJ2_getChar_3b067_18 : decode cJ2_getChar_3b067 18 = .ok (.new 52, 3) := by decide +kernel
theorem dJ2_getChar_3b067_21 : decode cJ2_getChar_3b067 21 = .ok (.dup, 1) := by decide +kernel
theorem dJ2_getChar_3b067_22 : decode cJ2_getChar_3b067 22 = .ok (.ldc 54, 2) := by decide +kernel
theorem dJ2_getChar_3b067_24 : decode cJ2_getChar_3b067 24 = .ok (.invokespecial 56, 3) := by decide +kernel
theorem dJ2_getChar_3b067_27 : decode cJ2_getChar_3b067 27 = .ok (.athrow, 1) := by decide +kernel
theorem dJ2_getChar_3b067_28 : decode cJ2_getChar_3b067 28 = .ok (.iload_n 1, 1) := by decide +kernel
theorem dJ2_getChar_3b067_29 : decode cJ2_getChar_3b067 29 = .ok (.iconst 1, 1) := by decide +kernel
theorem dJ2_getChar_3b067_30 : decode cJ2_getChar_3b067 30 = .ok (.ishl, 1) := by decide +kernel
theorem dJ2_getChar_3b067_31 : decode cJ2_getChar_3b067 31 = .ok (.istore_n 1, 1) := by decide +kernel
theorem dJ2_getChar_3b067_32 : decode cJ2_getChar_3b067 32 = .ok (.aload_n 0, 1) := by decide +kernel
theorem dJ2_getChar_3b067_33 : decode cJ2_getChar_3b067 33 = .ok (.iload_n 1, 1) := by decide +kernel
theorem dJ2_getChar_3b067_34 : decode cJ2_getChar_3b067 34 = .ok (.iinc 1 1, 3) := by decide +kernel
theorem dJ2_getChar_3b067_37 : decode cJ2_getChar_3b067 37 = .ok (.baload, 1) := by decide +kernel
theorem dJ2_getChar_3b067_38 : decode cJ2_getChar_3b067 38 = .ok (.sipush 255, 3) := by decide +kernel
theorem dJ2_getChar_3b067_41 : decode cJ2_getChar_3b067 41 = .ok (.iand, 1) := by decide +kernel
theorem dJ2_getChar_3b067_42 : decode cJ2_getChar_3b067 42 = .ok (.getstatic 59, 3) := by decide +kernel
theorem dJ2_getChar_3b067_45 : decode cJ2_getChar_3b067 45 = .ok (.ishl, 1) := by decide +kernel
theorem dJ2_getChar_3b067_46 : decode cJ2_getChar_3b067 46 = .ok (.aload_n 0, 1) := by decide +kernel
theorem dJ2_getChar_3b067_47 : decode cJ2_getChar_3b067 47 = .ok (.iload_n 1, 1) := by decide +kernel
theorem dJ2_getChar_3b067_48 : decode cJ2_getChar_3b067 48 = .ok (.baload, 1) := by decide +kernel
theorem dJ2_getChar_3b067_49 : decode cJ2_getChar_3b067 49 = .ok (.sipush 255, 3) := by decide +kernel
theorem dJ2_getChar_3b067_52 : decode cJ2_getChar_3b067 52 = .ok (.iand, 1) := by decide +kernel
theorem dJ2_getChar_3b067_53 : decode cJ2_getChar_3b067 53 = .ok (.getstatic 63, 3) := by decide +kernel
theorem dJ2_getChar_3b067_56 : decode cJ2_getChar_3b067 56 = .ok (.ishl, 1) := by decide +kernel
theorem dJ2_getChar_3b067_57 : decode cJ2_getChar_3b067 57 = .ok (.ior, 1) := by decide +kernel
theorem dJ2_getChar_3b067_58 : decode cJ2_getChar_3b067 58 = .ok (.i2c, 1) := by decide +kernel
theorem dJ2_getChar_3b067_59 : decode cJ2_getChar_3b067 59 = .ok (.ireturn, 1) := by decide +kernel
theorem dJ2_length_9d52b_0 : decode cJ2_length_9d52b 0 = .ok (.aload_n 0, 1) := by decide +kernel
theorem dJ2_length_9d52b_1 : decode cJ2_length_9d52b 1 = .ok (.arraylength, 1) := by decide +kernel
theorem dJ2_length_9d52b_2 : decode cJ2_length_9d52b 2 = .ok (.iconst 1, 1) := by decide +kernel
theorem dJ2_length_9d52b_3 : decode cJ2_length_9d52b 3 = .ok (.ishr, 1) := by decide +kernel
theorem dJ2_length_9d52b_4 : decode cJ2_length_9d52b 4 = .ok (.ireturn, 1) := by decide +kernel
theorem dJ2_charAt_3b067_0 : decode cJ2_charAt_3b067 0 = .ok (.iload_n 1, 1) := by decide +kernel
theorem dJ2_charAt_3b067_1 : decode cJ2_charAt_3b067 1 = .ok (.aload_n 0, 1) := by decide +kernel
theorem dJ2_charAt_3b067_2 : decode cJ2_charAt_3b067 2 = .ok (.invokestatic 67, 3) := by decide +kernel
theorem dJ2_charAt_3b067_5 : decode cJ2_charAt_3b067 5 = .ok (.aload_n 0, 1) := by decide +kernel
theorem dJ2_charAt_3b067_6 : decode cJ2_charAt_3b067 6 = .ok (.iload_n 1, 1) := by decide +kernel
theorem dJ2_charAt_3b067_7 : decode cJ2_charAt_3b067 7 = .ok (.invokestatic 71, 3) := by decide +kernel
theorem dJ2_charAt_3b067_10 : decode cJ2_charAt_3b067 10 = .ok (.ireturn, 1) := by decide +kernel
theorem dJ2_checkIndex_2214a_0 : decode cJ2_checkIndex_2214a 0 = .ok (.iload_n 0, 1) := by decide +kernel
theorem dJ2_checkIndex_2214a_1 : decode cJ2_checkIndex_2214a 1 = .ok (.aload_n 1, 1) := by decide +kernel
theorem dJ2_checkIndex_2214a_2 : decode cJ2_checkIndex_2214a 2 = .ok (.invokestatic 48, 3) := by decide +kernel
theorem dJ2_checkIndex_2214a_5 : decode cJ2_checkIndex_2214a 5 = .ok (.invokestatic 414, 3) := by decide +kernel
theorem dJ2_checkIndex_2214a_8 : decode cJ2_checkIndex_2214a 8 = .ok (.return_, 1) := by decide +kernel
theorem dJ3_checkIndex_8e157_0 : decode cJ3_checkIndex_8e157 0 = .ok (.iload_n 0, 1) := by decide +kernel
theorem dJ3_checkIndex_8e157_1 : decode cJ3_checkIndex_8e157 1 = .ok (.ifCond .lt 8, 3) := by decide +kernel
theorem dJ3_checkIndex_8e157_4 : decode cJ3_checkIndex_8e157 4 = .ok (.iload_n 0, 1) := by decide +kernel
theorem dJ3_checkIndex_8e157_5 : decode cJ3_checkIndex_8e157 5 = .ok (.iload_n 1, 1) := by decide +kernel
theorem dJ3_checkIndex_8e157_6 : decode cJ3_checkIndex_8e157 6 = .ok (.if_icmp .lt 10, 3) := by decide +kernel
theorem dJ3_checkIndex_8e157_9 : decode cJ3_checkIndex_8e157 9 = .ok (.aload_n 2, 1) := by decide +kernel
theorem dJ3_checkIndex_8e157_10 : decode cJ3_checkIndex_8e157 10 = .ok (.iload_n 0, 1) := by decide +kernel
theorem dJ3_checkIndex_8e157_11 : decode cJ3_checkIndex_8e157 11 = .ok (.iload_n 1, 1) := by decide +kernel
theorem dJ3_checkIndex_8e157_12 : decode cJ3_checkIndex_8e157 12 = .ok (.invokestatic 95, 3) := by decide +kernel
theorem dJ3_checkIndex_8e157_15 : decode cJ3_checkIndex_8e157 15 = .ok (.athrow, 1) := by decide +kernel
theorem dJ3_checkIndex_8e157_16 : decode cJ3_checkIndex_8e157 16 = .ok (.iload_n 0, 1) := by decide +kernel
theorem dJ3_checkIndex_8e157_17 : decode cJ3_checkIndex_8e157 17 = .ok (.ireturn, 1) := by decide +kernel
theorem dL_law_0 : decode cL_law 0 = .ok (.new 7, 3) := by decide +kernel
theorem dL_law_3 : decode cL_law 3 = .ok (.dup, 1) := by decide +kernel
theorem dL_law_4 : decode cL_law 4 = .ok (.invokespecial 9, 3) := by decide +kernel
theorem dL_law_7 : decode cL_law 7 = .ok (.astore_n 1, 1) := by decide +kernel
theorem dL_law_8 : decode cL_law 8 = .ok (.new 10, 3) := by decide +kernel
theorem dL_law_11 : decode cL_law 11 = .ok (.dup, 1) := by decide +kernel
theorem dL_law_12 : decode cL_law 12 = .ok (.invokespecial 12, 3) := by decide +kernel
theorem dL_law_15 : decode cL_law 15 = .ok (.astore_n 2, 1) := by decide +kernel
theorem dL_law_16 : decode cL_law 16 = .ok (.iconst 0, 1) := by decide +kernel
theorem dL_law_17 : decode cL_law 17 = .ok (.istore_n 3, 1) := by decide +kernel
theorem dL_law_18 : decode cL_law 18 = .ok (.iload_n 3, 1) := by decide +kernel
theorem dL_law_19 : decode cL_law 19 = .ok (.aload_n 0, 1) := by decide +kernel
theorem dL_law_20 : decode cL_law 20 = .ok (.arraylength, 1) := by decide +kernel
theorem dL_law_21 : decode cL_law 21 = .ok (.bipush 6, 2) := by decide +kernel
theorem dL_law_23 : decode cL_law 23 = .ok (.isub, 1) := by decide +kernel
theorem dL_law_24 : decode cL_law 24 = .ok (.if_icmp .gt 690, 3) := by decide +kernel
theorem dL_law_27 : decode cL_law 27 = .ok (.aload_n 0, 1) := by decide +kernel
theorem dL_law_28 : decode cL_law 28 = .ok (.iload_n 3, 1) := by decide +kernel
theorem dL_law_29 : decode cL_law 29 = .ok (.iaload, 1) := by decide +kernel
theorem dL_law_30 : decode cL_law 30 = .ok (.bipush 31, 2) := by decide +kernel
theorem dL_law_32 : decode cL_law 32 = .ok (.iand, 1) := by decide +kernel
theorem dL_law_33 : decode cL_law 33 = .ok (.tableswitch 675 0 19 #[95, 128, 161, 184, 217, 230, 253, 286, 309, 332, 365, 408, 471, 494, 507, 540, 573, 606, 639, 652], 95) := by decide +kernel
theorem dL_law_128 : decode cL_law 128 = .ok (.aload_n 1, 1) := by decide +kernel
theorem dL_law_129 : decode cL_law 129 = .ok (.aload_n 0, 1) := by decide +kernel
theorem dL_law_130 : decode cL_law 130 = .ok (.iload_n 3, 1) := by decide +kernel
theorem dL_law_131 : decode cL_law 131 = .ok (.iconst 1, 1) := by decide +kernel
theorem dL_law_132 : decode cL_law 132 = .ok (.iadd, 1) := by decide +kernel
theorem dL_law_133 : decode cL_law 133 = .ok (.iaload, 1) := by decide +kernel
theorem dL_law_134 : decode cL_law 134 = .ok (.aload_n 0, 1) := by decide +kernel
theorem dL_law_135 : decode cL_law 135 = .ok (.iload_n 3, 1) := by decide +kernel
theorem dL_law_136 : decode cL_law 136 = .ok (.iconst 2, 1) := by decide +kernel
theorem dL_law_137 : decode cL_law 137 = .ok (.iadd, 1) := by decide +kernel
theorem dL_law_138 : decode cL_law 138 = .ok (.iaload, 1) := by decide +kernel
theorem dL_law_139 : decode cL_law 139 = .ok (.invokevirtual 13, 3) := by decide +kernel
theorem dL_law_142 : decode cL_law 142 = .ok (.pop, 1) := by decide +kernel
theorem dL_law_143 : decode cL_law 143 = .ok (.aload_n 2, 1) := by decide +kernel
theorem dL_law_144 : decode cL_law 144 = .ok (.aload_n 0, 1) := by decide +kernel
theorem dL_law_145 : decode cL_law 145 = .ok (.iload_n 3, 1) := by decide +kernel
theorem dL_law_146 : decode cL_law 146 = .ok (.iconst 1, 1) := by decide +kernel
theorem dL_law_147 : decode cL_law 147 = .ok (.iadd, 1) := by decide +kernel
theorem dL_law_148 : decode cL_law 148 = .ok (.iaload, 1) := by decide +kernel
theorem dL_law_149 : decode cL_law 149 = .ok (.aload_n 0, 1) := by decide +kernel
theorem dL_law_150 : decode cL_law 150 = .ok (.iload_n 3, 1) := by decide +kernel
theorem dL_law_151 : decode cL_law 151 = .ok (.iconst 2, 1) := by decide +kernel
theorem dL_law_152 : decode cL_law 152 = .ok (.iadd, 1) := by decide +kernel
theorem dL_law_153 : decode cL_law 153 = .ok (.iaload, 1) := by decide +kernel
theorem dL_law_154 : decode cL_law 154 = .ok (.invokevirtual 17, 3) := by decide +kernel
theorem dL_law_157 : decode cL_law 157 = .ok (.pop, 1) := by decide +kernel
theorem dL_law_158 : decode cL_law 158 = .ok (.goto 550, 3) := by decide +kernel
theorem dL_law_161 : decode cL_law 161 = .ok (.aload_n 1, 1) := by decide +kernel
theorem dL_law_162 : decode cL_law 162 = .ok (.aload_n 0, 1) := by decide +kernel
theorem dL_law_163 : decode cL_law 163 = .ok (.iload_n 3, 1) := by decide +kernel
theorem dL_law_164 : decode cL_law 164 = .ok (.iconst 1, 1) := by decide +kernel
theorem dL_law_165 : decode cL_law 165 = .ok (.iadd, 1) := by decide +kernel
theorem dL_law_166 : decode cL_law 166 = .ok (.iaload, 1) := by decide +kernel
theorem dL_law_167 : decode cL_law 167 = .ok (.aload_n 0, 1) := by decide +kernel
theorem dL_law_168 : decode cL_law 168 = .ok (.iload_n 3, 1) := by decide +kernel
theorem dL_law_169 : decode cL_law 169 = .ok (.iconst 2, 1) := by decide +kernel
theorem dL_law_170 : decode cL_law 170 = .ok (.iadd, 1) := by decide +kernel
theorem dL_law_171 : decode cL_law 171 = .ok (.iaload, 1) := by decide +kernel
theorem dL_law_172 : decode cL_law 172 = .ok (.invokevirtual 18, 3) := by decide +kernel
theorem dL_law_175 : decode cL_law 175 = .ok (.pop, 1) := by decide +kernel
theorem dL_law_176 : decode cL_law 176 = .ok (.aload_n 2, 1) := by decide +kernel
theorem dL_law_177 : decode cL_law 177 = .ok (.aload_n 0, 1) := by decide +kernel
theorem dL_law_178 : decode cL_law 178 = .ok (.iload_n 3, 1) := by decide +kernel
theorem dL_law_179 : decode cL_law 179 = .ok (.iconst 1, 1) := by decide +kernel
theorem dL_law_180 : decode cL_law 180 = .ok (.iadd, 1) := by decide +kernel
theorem dL_law_181 : decode cL_law 181 = .ok (.iaload, 1) := by decide +kernel
theorem dL_law_182 : decode cL_law 182 = .ok (.aload_n 0, 1) := by decide +kernel
theorem dL_law_183 : decode cL_law 183 = .ok (.iload_n 3, 1) := by decide +kernel
theorem dL_law_184 : decode cL_law 184 = .ok (.iconst 2, 1) := by decide +kernel
theorem dL_law_185 : decode cL_law 185 = .ok (.iadd, 1) := by decide +kernel
theorem dL_law_186 : decode cL_law 186 = .ok (.iaload, 1) := by decide +kernel
theorem dL_law_187 : decode cL_law 187 = .ok (.invokevirtual 22, 3) := by decide +kernel
theorem dL_law_190 : decode cL_law 190 = .ok (.pop, 1) := by decide +kernel
theorem dL_law_191 : decode cL_law 191 = .ok (.goto 517, 3) := by decide +kernel
theorem dL_law_194 : decode cL_law 194 = .ok (.aload_n 1, 1) := by decide +kernel
theorem dL_law_195 : decode cL_law 195 = .ok (.aload_n 0, 1) := by decide +kernel
theorem dL_law_196 : decode cL_law 196 = .ok (.iload_n 3, 1) := by decide +kernel
theorem dL_law_197 : decode cL_law 197 = .ok (.iconst 1, 1) := by decide +kernel
theorem dL_law_198 : decode cL_law 198 = .ok (.iadd, 1) := by decide +kernel
theorem dL_law_199 : decode cL_law 199 = .ok (.iaload, 1) := by decide +kernel
theorem dL_law_200 : decode cL_law 200 = .ok (.invokevirtual 23, 3) := by decide +kernel
theorem dL_law_203 : decode cL_law 203 = .ok (.pop, 1) := by decide +kernel
theorem dL_law_204 : decode cL_law 204 = .ok (.aload_n 2, 1) := by decide +kernel
theorem dL_law_205 : decode cL_law 205 = .ok (.aload_n 0, 1) := by decide +kernel
theorem dL_law_206 : decode cL_law 206 = .ok (.iload_n 3, 1) := by decide +kernel
theorem dL_law_207 : decode cL_law 207 = .ok (.iconst 1, 1) := by decide +kernel
theorem dL_law_208 : decode cL_law 208 = .ok (.iadd, 1) := by decide +kernel
theorem dL_law_209 : decode cL_law 209 = .ok (.iaload, 1) := by decide +kernel
theorem dL_law_210 : decode cL_law 210 = .ok (.invokevirtual 27, 3) := by decide +kernel
theorem dL_law_213 : decode cL_law 213 = .ok (.pop, 1) := by decide +kernel
theorem dL_law_214 : decode cL_law 214 = .ok (.goto 494, 3) := by decide +kernel
theorem dL_law_217 : decode cL_law 217 = .ok (.aload_n 1, 1) := by decide +kernel
theorem dL_law_218 : decode cL_law 218 = .ok (.aload_n 0, 1) := by decide +kernel
theorem dL_law_219 : decode cL_law 219 = .ok (.iload_n 3, 1) := by decide +kernel
theorem dL_law_220 : decode cL_law 220 = .ok (.iconst 1, 1) := by decide +kernel
theorem dL_law_221 : decode cL_law 221 = .ok (.iadd, 1) := by decide +kernel
theorem dL_law_222 : decode cL_law 222 = .ok (.iaload, 1) := by decide +kernel
theorem dL_law_223 : decode cL_law 223 = .ok (.aload_n 0, 1) := by decide +kernel
theorem dL_law_224 : decode cL_law 224 = .ok (.iload_n 3, 1) := by decide +kernel
theorem dL_law_225 : decode cL_law 225 = .ok (.iconst 2, 1) := by decide +kernel
theorem dL_law_226 : decode cL_law 226 = .ok (.iadd, 1) := by decide +kernel
theorem dL_law_227 : decode cL_law 227 = .ok (.iaload, 1) := by decide +kernel
theorem dL_law_228 : decode cL_law 228 = .ok (.invokevirtual 28, 3) := by decide +kernel
theorem dL_law_231 : decode cL_law 231 = .ok (.pop, 1) := by decide +kernel
theorem dL_law_232 : decode cL_law 232 = .ok (.aload_n 2, 1) := by decide +kernel
theorem dL_law_233 : decode cL_law 233 = .ok (.aload_n 0, 1) := by decide +kernel
theorem dL_law_234 : decode cL_law 234 = .ok (.iload_n 3, 1) := by decide +kernel
theorem dL_law_235 : decode cL_law 235 = .ok (.iconst 1, 1) := by decide +kernel
theorem dL_law_236 : decode cL_law 236 = .ok (.iadd, 1) := by decide +kernel
theorem dL_law_237 : decode cL_law 237 = .ok (.iaload, 1) := by decide +kernel
theorem dL_law_238 : decode cL_law 238 = .ok (.aload_n 0, 1) := by decide +kernel
theorem dL_law_239 : decode cL_law 239 = .ok (.iload_n 3, 1) := by decide +kernel
theorem dL_law_240 : decode cL_law 240 = .ok (.iconst 2, 1) := by decide +kernel
theorem dL_law_241 : decode cL_law 241 = .ok (.iadd, 1) := by decide +kernel
theorem dL_law_242 : decode cL_law 242 = .ok (.iaload, 1) := by decide +kernel
theorem dL_law_243 : decode cL_law 243 = .ok (.invokevirtual 31, 3) := by decide +kernel
theorem dL_law_246 : decode cL_law 246 = .ok (.pop, 1) := by decide +kernel
theorem dL_law_247 : decode cL_law 247 = .ok (.goto 461, 3) := by decide +kernel
theorem dL_law_250 : decode cL_law 250 = .ok (.aload_n 1, 1) := by decide +kernel
theorem dL_law_251 : decode cL_law 251 = .ok (.invokevirtual 32, 3) := by decide +kernel
theorem dL_law_254 : decode cL_law 254 = .ok (.aload_n 2, 1) := by decide +kernel
theorem dL_law_255 : decode cL_law 255 = .ok (.invokevirtual 36, 3) := by decide +kernel
theorem dL_law_258 : decode cL_law 258 = .ok (.if_icmp .eq 450, 3) := by decide +kernel
theorem dL_law_261 : decode cL_law 261 = .ok (.iconst 0, 1) := by decide +kernel
theorem dL_law_262 : decode cL_law 262 = .ok (.ireturn, 1) := by decide +kernel
theorem dL_law_263 : decode cL_law 263 = .ok (.aload_n 1, 1) := by decide +kernel
theorem dL_law_264 : decode cL_law 264 = .ok (.aload_n 0, 1) := by decide +kernel
theorem dL_law_265 : decode cL_law 265 = .ok (.iload_n 3, 1) := by decide +kernel
theorem dL_law_266 : decode cL_law 266 = .ok (.iconst 1, 1) := by decide +kernel
theorem dL_law_267 : decode cL_law 267 = .ok (.iadd, 1) := by decide +kernel
theorem dL_law_268 : decode cL_law 268 = .ok (.iaload, 1) := by decide +kernel
theorem dL_law_269 : decode cL_law 269 = .ok (.invokevirtual 37, 3) := by decide +kernel
theorem dL_law_272 : decode cL_law 272 = .ok (.pop, 1) := by decide +kernel
theorem dL_law_273 : decode cL_law 273 = .ok (.aload_n 2, 1) := by decide +kernel
theorem dL_law_274 : decode cL_law 274 = .ok (.aload_n 0, 1) := by decide +kernel
theorem dL_law_275 : decode cL_law 275 = .ok (.iload_n 3, 1) := by decide +kernel
theorem dL_law_276 : decode cL_law 276 = .ok (.iconst 1, 1) := by decide +kernel
theorem dL_law_277 : decode cL_law 277 = .ok (.iadd, 1) := by decide +kernel
theorem dL_law_278 : decode cL_law 278 = .ok (.iaload, 1) := by decide +kernel
theorem dL_law_279 : decode cL_law 279 = .ok (.invokevirtual 41, 3) := by decide +kernel
theorem dL_law_282 : decode cL_law 282 = .ok (.pop, 1) := by decide +kernel
theorem dL_law_283 : decode cL_law 283 = .ok (.goto 425, 3) := by decide +kernel
theorem dL_law_286 : decode cL_law 286 = .ok (.aload_n 1, 1) := by decide +kernel
theorem dL_law_287 : decode cL_law 287 = .ok (.aload_n 0, 1) := by decide +kernel
theorem dL_law_288 : decode cL_law 288 = .ok (.iload_n 3, 1) := by decide +kernel
theorem dL_law_289 : decode cL_law 289 = .ok (.iconst 1, 1) := by decide +kernel
theorem dL_law_290 : decode cL_law 290 = .ok (.iadd, 1) := by decide +kernel
theorem dL_law_291 : decode cL_law 291 = .ok (.iaload, 1) := by decide +kernel
theorem dL_law_292 : decode cL_law 292 = .ok (.aload_n 0, 1) := by decide +kernel
theorem dL_law_293 : decode cL_law 293 = .ok (.iload_n 3, 1) := by decide +kernel
theorem dL_law_294 : decode cL_law 294 = .ok (.iconst 2, 1) := by decide +kernel
theorem dL_law_295 : decode cL_law 295 = .ok (.iadd, 1) := by decide +kernel
theorem dL_law_296 : decode cL_law 296 = .ok (.iaload, 1) := by decide +kernel
theorem dL_law_297 : decode cL_law 297 = .ok (.invokevirtual 42, 3) := by decide +kernel
theorem dL_law_300 : decode cL_law 300 = .ok (.pop, 1) := by decide +kernel
theorem dL_law_301 : decode cL_law 301 = .ok (.aload_n 2, 1) := by decide +kernel
theorem dL_law_302 : decode cL_law 302 = .ok (.aload_n 0, 1) := by decide +kernel
theorem dL_law_303 : decode cL_law 303 = .ok (.iload_n 3, 1) := by decide +kernel
theorem dL_law_304 : decode cL_law 304 = .ok (.iconst 1, 1) := by decide +kernel
theorem dL_law_305 : decode cL_law 305 = .ok (.iadd, 1) := by decide +kernel
theorem dL_law_306 : decode cL_law 306 = .ok (.iaload, 1) := by decide +kernel
theorem dL_law_307 : decode cL_law 307 = .ok (.aload_n 0, 1) := by decide +kernel
theorem dL_law_308 : decode cL_law 308 = .ok (.iload_n 3, 1) := by decide +kernel
theorem dL_law_309 : decode cL_law 309 = .ok (.iconst 2, 1) := by decide +kernel
theorem dL_law_310 : decode cL_law 310 = .ok (.iadd, 1) := by decide +kernel
theorem dL_law_311 : decode cL_law 311 = .ok (.iaload, 1) := by decide +kernel
theorem dL_law_312 : decode cL_law 312 = .ok (.invokevirtual 45, 3) := by decide +kernel
theorem dL_law_315 : decode cL_law 315 = .ok (.pop, 1) := by decide +kernel
theorem dL_law_316 : decode cL_law 316 = .ok (.goto 392, 3) := by decide +kernel
theorem dL_law_319 : decode cL_law 319 = .ok (.aload_n 1, 1) := by decide +kernel
theorem dL_law_320 : decode cL_law 320 = .ok (.aload_n 0, 1) := by decide +kernel
theorem dL_law_321 : decode cL_law 321 = .ok (.iload_n 3, 1) := by decide +kernel
theorem dL_law_322 : decode cL_law 322 = .ok (.iconst 1, 1) := by decide +kernel
theorem dL_law_323 : decode cL_law 323 = .ok (.iadd, 1) := by decide +kernel
theorem dL_law_324 : decode cL_law 324 = .ok (.iaload, 1) := by decide +kernel
theorem dL_law_325 : decode cL_law 325 = .ok (.invokevirtual 46, 3) := by decide +kernel
theorem dL_law_328 : decode cL_law 328 = .ok (.pop, 1) := by decide +kernel
theorem dL_law_329 : decode cL_law 329 = .ok (.aload_n 2, 1) := by decide +kernel
theorem dL_law_330 : decode cL_law 330 = .ok (.aload_n 0, 1) := by decide +kernel
theorem dL_law_331 : decode cL_law 331 = .ok (.iload_n 3, 1) := by decide +kernel
theorem dL_law_332 : decode cL_law 332 = .ok (.iconst 1, 1) := by decide +kernel
theorem dL_law_333 : decode cL_law 333 = .ok (.iadd, 1) := by decide +kernel
theorem dL_law_334 : decode cL_law 334 = .ok (.iaload, 1) := by decide +kernel
theorem dL_law_335 : decode cL_law 335 = .ok (.invokevirtual 49, 3) := by decide +kernel
theorem dL_law_338 : decode cL_law 338 = .ok (.pop, 1) := by decide +kernel
theorem dL_law_339 : decode cL_law 339 = .ok (.goto 369, 3) := by decide +kernel
theorem dL_law_342 : decode cL_law 342 = .ok (.aload_n 1, 1) := by decide +kernel
theorem dL_law_343 : decode cL_law 343 = .ok (.aload_n 0, 1) := by decide +kernel
theorem dL_law_344 : decode cL_law 344 = .ok (.iload_n 3, 1) := by decide +kernel
theorem dL_law_345 : decode cL_law 345 = .ok (.iconst 1, 1) := by decide +kernel
theorem dL_law_346 : decode cL_law 346 = .ok (.iadd, 1) := by decide +kernel
theorem dL_law_347 : decode cL_law 347 = .ok (.iaload, 1) := by decide +kernel
theorem dL_law_348 : decode cL_law 348 = .ok (.invokevirtual 50, 3) := by decide +kernel
theorem dL_law_351 : decode cL_law 351 = .ok (.pop, 1) := by decide +kernel
theorem dL_law_352 : decode cL_law 352 = .ok (.aload_n 2, 1) := by decide +kernel
theorem dL_law_353 : decode cL_law 353 = .ok (.aload_n 0, 1) := by decide +kernel
theorem dL_law_354 : decode cL_law 354 = .ok (.iload_n 3, 1) := by decide +kernel
theorem dL_law_355 : decode cL_law 355 = .ok (.iconst 1, 1) := by decide +kernel
theorem dL_law_356 : decode cL_law 356 = .ok (.iadd, 1) := by decide +kernel
theorem dL_law_357 : decode cL_law 357 = .ok (.iaload, 1) := by decide +kernel
theorem dL_law_358 : decode cL_law 358 = .ok (.invokevirtual 53, 3) := by decide +kernel
theorem dL_law_361 : decode cL_law 361 = .ok (.pop, 1) := by decide +kernel
theorem dL_law_362 : decode cL_law 362 = .ok (.goto 346, 3) := by decide +kernel
theorem dL_law_365 : decode cL_law 365 = .ok (.aload_n 1, 1) := by decide +kernel
theorem dL_law_366 : decode cL_law 366 = .ok (.aload_n 0, 1) := by decide +kernel
theorem dL_law_367 : decode cL_law 367 = .ok (.iload_n 3, 1) := by decide +kernel
theorem dL_law_368 : decode cL_law 368 = .ok (.iconst 1, 1) := by decide +kernel
theorem dL_law_369 : decode cL_law 369 = .ok (.iadd, 1) := by decide +kernel
theorem dL_law_370 : decode cL_law 370 = .ok (.iaload, 1) := by decide +kernel
theorem dL_law_371 : decode cL_law 371 = .ok (.aload_n 0, 1) := by decide +kernel
theorem dL_law_372 : decode cL_law 372 = .ok (.iload_n 3, 1) := by decide +kernel
theorem dL_law_373 : decode cL_law 373 = .ok (.iconst 2, 1) := by decide +kernel
theorem dL_law_374 : decode cL_law 374 = .ok (.iadd, 1) := by decide +kernel
theorem dL_law_375 : decode cL_law 375 = .ok (.iaload, 1) := by decide +kernel
theorem dL_law_376 : decode cL_law 376 = .ok (.invokevirtual 54, 3) := by decide +kernel
theorem dL_law_379 : decode cL_law 379 = .ok (.pop, 1) := by decide +kernel
theorem dL_law_380 : decode cL_law 380 = .ok (.aload_n 2, 1) := by decide +kernel
theorem dL_law_381 : decode cL_law 381 = .ok (.aload_n 0, 1) := by decide +kernel
theorem dL_law_382 : decode cL_law 382 = .ok (.iload_n 3, 1) := by decide +kernel
theorem dL_law_383 : decode cL_law 383 = .ok (.iconst 1, 1) := by decide +kernel
theorem dL_law_384 : decode cL_law 384 = .ok (.iadd, 1) := by decide +kernel
theorem dL_law_385 : decode cL_law 385 = .ok (.iaload, 1) := by decide +kernel
theorem dL_law_386 : decode cL_law 386 = .ok (.aload_n 0, 1) := by decide +kernel
theorem dL_law_387 : decode cL_law 387 = .ok (.iload_n 3, 1) := by decide +kernel
theorem dL_law_388 : decode cL_law 388 = .ok (.iconst 2, 1) := by decide +kernel
theorem dL_law_389 : decode cL_law 389 = .ok (.iadd, 1) := by decide +kernel
theorem dL_law_390 : decode cL_law 390 = .ok (.iaload, 1) := by decide +kernel
theorem dL_law_391 : decode cL_law 391 = .ok (.invokevirtual 57, 3) := by decide +kernel
theorem dL_law_394 : decode cL_law 394 = .ok (.pop, 1) := by decide +kernel
theorem dL_law_395 : decode cL_law 395 = .ok (.goto 313, 3) := by decide +kernel
theorem dL_law_398 : decode cL_law 398 = .ok (.aload_n 1, 1) := by decide +kernel
theorem dL_law_399 : decode cL_law 399 = .ok (.aload_n 0, 1) := by decide +kernel
theorem dL_law_400 : decode cL_law 400 = .ok (.iload_n 3, 1) := by decide +kernel
theorem dL_law_401 : decode cL_law 401 = .ok (.iconst 1, 1) := by decide +kernel
theorem dL_law_402 : decode cL_law 402 = .ok (.iadd, 1) := by decide +kernel
theorem dL_law_403 : decode cL_law 403 = .ok (.iaload, 1) := by decide +kernel
theorem dL_law_404 : decode cL_law 404 = .ok (.aload_n 0, 1) := by decide +kernel
theorem dL_law_405 : decode cL_law 405 = .ok (.iload_n 3, 1) := by decide +kernel
theorem dL_law_406 : decode cL_law 406 = .ok (.iconst 2, 1) := by decide +kernel
theorem dL_law_407 : decode cL_law 407 = .ok (.iadd, 1) := by decide +kernel
theorem dL_law_408 : decode cL_law 408 = .ok (.iaload, 1) := by decide +kernel
theorem dL_law_409 : decode cL_law 409 = .ok (.aload_n 0, 1) := by decide +kernel
theorem dL_law_410 : decode cL_law 410 = .ok (.iload_n 3, 1) := by decide +kernel
theorem dL_law_411 : decode cL_law 411 = .ok (.iconst 3, 1) := by decide +kernel
theorem dL_law_412 : decode cL_law 412 = .ok (.iadd, 1) := by decide +kernel
theorem dL_law_413 : decode cL_law 413 = .ok (.iaload, 1) := by decide +kernel
theorem dL_law_414 : decode cL_law 414 = .ok (.invokevirtual 58, 3) := by decide +kernel
theorem dL_law_417 : decode cL_law 417 = .ok (.pop, 1) := by decide +kernel
theorem dL_law_418 : decode cL_law 418 = .ok (.aload_n 2, 1) := by decide +kernel
theorem dL_law_419 : decode cL_law 419 = .ok (.aload_n 0, 1) := by decide +kernel
theorem dL_law_420 : decode cL_law 420 = .ok (.iload_n 3, 1) := by decide +kernel
theorem dL_law_421 : decode cL_law 421 = .ok (.iconst 1, 1) := by decide +kernel
theorem dL_law_422 : decode cL_law 422 = .ok (.iadd, 1) := by decide +kernel
theorem dL_law_423 : decode cL_law 423 = .ok (.iaload, 1) := by decide +kernel
theorem dL_law_424 : decode cL_law 424 = .ok (.aload_n 0, 1) := by decide +kernel
theorem dL_law_425 : decode cL_law 425 = .ok (.iload_n 3, 1) := by decide +kernel
theorem dL_law_426 : decode cL_law 426 = .ok (.iconst 2, 1) := by decide +kernel
theorem dL_law_427 : decode cL_law 427 = .ok (.iadd, 1) := by decide +kernel
theorem dL_law_428 : decode cL_law 428 = .ok (.iaload, 1) := by decide +kernel
theorem dL_law_429 : decode cL_law 429 = .ok (.aload_n 0, 1) := by decide +kernel
theorem dL_law_430 : decode cL_law 430 = .ok (.iload_n 3, 1) := by decide +kernel
theorem dL_law_431 : decode cL_law 431 = .ok (.iconst 3, 1) := by decide +kernel
theorem dL_law_432 : decode cL_law 432 = .ok (.iadd, 1) := by decide +kernel
theorem dL_law_433 : decode cL_law 433 = .ok (.iaload, 1) := by decide +kernel
theorem dL_law_434 : decode cL_law 434 = .ok (.invokevirtual 62, 3) := by decide +kernel
theorem dL_law_437 : decode cL_law 437 = .ok (.pop, 1) := by decide +kernel
theorem dL_law_438 : decode cL_law 438 = .ok (.goto 270, 3) := by decide +kernel
theorem dL_law_441 : decode cL_law 441 = .ok (.aload_n 1, 1) := by decide +kernel
theorem dL_law_442 : decode cL_law 442 = .ok (.aload_n 0, 1) := by decide +kernel
theorem dL_law_443 : decode cL_law 443 = .ok (.iload_n 3, 1) := by decide +kernel
theorem dL_law_444 : decode cL_law 444 = .ok (.iconst 1, 1) := by decide +kernel
theorem dL_law_445 : decode cL_law 445 = .ok (.iadd, 1) := by decide +kernel
theorem dL_law_446 : decode cL_law 446 = .ok (.iaload, 1) := by decide +kernel
theorem dL_law_447 : decode cL_law 447 = .ok (.aload_n 0, 1) := by decide +kernel
theorem dL_law_448 : decode cL_law 448 = .ok (.iload_n 3, 1) := by decide +kernel
theorem dL_law_449 : decode cL_law 449 = .ok (.iconst 2, 1) := by decide +kernel
theorem dL_law_450 : decode cL_law 450 = .ok (.iadd, 1) := by decide +kernel
theorem dL_law_451 : decode cL_law 451 = .ok (.iaload, 1) := by decide +kernel
theorem dL_law_452 : decode cL_law 452 = .ok (.aload_n 0, 1) := by decide +kernel
theorem dL_law_453 : decode cL_law 453 = .ok (.iload_n 3, 1) := by decide +kernel
theorem dL_law_454 : decode cL_law 454 = .ok (.iconst 3, 1) := by decide +kernel
theorem dL_law_455 : decode cL_law 455 = .ok (.iadd, 1) := by decide +kernel
theorem dL_law_456 : decode cL_law 456 = .ok (.iaload, 1) := by decide +kernel
theorem dL_law_457 : decode cL_law 457 = .ok (.aload_n 0, 1) := by decide +kernel
theorem dL_law_458 : decode cL_law 458 = .ok (.iload_n 3, 1) := by decide +kernel
theorem dL_law_459 : decode cL_law 459 = .ok (.iconst 4, 1) := by decide +kernel
theorem dL_law_460 : decode cL_law 460 = .ok (.iadd, 1) := by decide +kernel
theorem dL_law_461 : decode cL_law 461 = .ok (.iaload, 1) := by decide +kernel
theorem dL_law_462 : decode cL_law 462 = .ok (.aload_n 0, 1) := by decide +kernel
theorem dL_law_463 : decode cL_law 463 = .ok (.iload_n 3, 1) := by decide +kernel
theorem dL_law_464 : decode cL_law 464 = .ok (.iconst 5, 1) := by decide +kernel
theorem dL_law_465 : decode cL_law 465 = .ok (.iadd, 1) := by decide +kernel
theorem dL_law_466 : decode cL_law 466 = .ok (.iaload, 1) := by decide +kernel
theorem dL_law_467 : decode cL_law 467 = .ok (.invokevirtual 63, 3) := by decide +kernel
theorem dL_law_470 : decode cL_law 470 = .ok (.pop, 1) := by decide +kernel
theorem dL_law_471 : decode cL_law 471 = .ok (.aload_n 2, 1) := by decide +kernel
theorem dL_law_472 : decode cL_law 472 = .ok (.aload_n 0, 1) := by decide +kernel
theorem dL_law_473 : decode cL_law 473 = .ok (.iload_n 3, 1) := by decide +kernel
theorem dL_law_474 : decode cL_law 474 = .ok (.iconst 1, 1) := by decide +kernel
theorem dL_law_475 : decode cL_law 475 = .ok (.iadd, 1) := by decide +kernel
theorem dL_law_476 : decode cL_law 476 = .ok (.iaload, 1) := by decide +kernel
theorem dL_law_477 : decode cL_law 477 = .ok (.aload_n 0, 1) := by decide +kernel
theorem dL_law_478 : decode cL_law 478 = .ok (.iload_n 3, 1) := by decide +kernel
theorem dL_law_479 : decode cL_law 479 = .ok (.iconst 2, 1) := by decide +kernel
theorem dL_law_480 : decode cL_law 480 = .ok (.iadd, 1) := by decide +kernel
theorem dL_law_481 : decode cL_law 481 = .ok (.iaload, 1) := by decide +kernel
theorem dL_law_482 : decode cL_law 482 = .ok (.aload_n 0, 1) := by decide +kernel
theorem dL_law_483 : decode cL_law 483 = .ok (.iload_n 3, 1) := by decide +kernel
theorem dL_law_484 : decode cL_law 484 = .ok (.iconst 3, 1) := by decide +kernel
theorem dL_law_485 : decode cL_law 485 = .ok (.iadd, 1) := by decide +kernel
theorem dL_law_486 : decode cL_law 486 = .ok (.iaload, 1) := by decide +kernel
theorem dL_law_487 : decode cL_law 487 = .ok (.aload_n 0, 1) := by decide +kernel
theorem dL_law_488 : decode cL_law 488 = .ok (.iload_n 3, 1) := by decide +kernel
theorem dL_law_489 : decode cL_law 489 = .ok (.iconst 4, 1) := by decide +kernel
theorem dL_law_490 : decode cL_law 490 = .ok (.iadd, 1) := by decide +kernel
theorem dL_law_491 : decode cL_law 491 = .ok (.iaload, 1) := by decide +kernel
theorem dL_law_492 : decode cL_law 492 = .ok (.aload_n 0, 1) := by decide +kernel
theorem dL_law_493 : decode cL_law 493 = .ok (.iload_n 3, 1) := by decide +kernel
theorem dL_law_494 : decode cL_law 494 = .ok (.iconst 5, 1) := by decide +kernel
theorem dL_law_495 : decode cL_law 495 = .ok (.iadd, 1) := by decide +kernel
theorem dL_law_496 : decode cL_law 496 = .ok (.iaload, 1) := by decide +kernel
theorem dL_law_497 : decode cL_law 497 = .ok (.invokevirtual 67, 3) := by decide +kernel
theorem dL_law_500 : decode cL_law 500 = .ok (.pop, 1) := by decide +kernel
theorem dL_law_501 : decode cL_law 501 = .ok (.goto 207, 3) := by decide +kernel
theorem dL_law_504 : decode cL_law 504 = .ok (.aload_n 1, 1) := by decide +kernel
theorem dL_law_505 : decode cL_law 505 = .ok (.aload_n 0, 1) := by decide +kernel
theorem dL_law_506 : decode cL_law 506 = .ok (.iload_n 3, 1) := by decide +kernel
theorem dL_law_507 : decode cL_law 507 = .ok (.iconst 1, 1) := by decide +kernel
theorem dL_law_508 : decode cL_law 508 = .ok (.iadd, 1) := by decide +kernel
theorem dL_law_509 : decode cL_law 509 = .ok (.iaload, 1) := by decide +kernel
theorem dL_law_510 : decode cL_law 510 = .ok (.invokevirtual 68, 3) := by decide +kernel
theorem dL_law_513 : decode cL_law 513 = .ok (.pop, 1) := by decide +kernel
theorem dL_law_514 : decode cL_law 514 = .ok (.aload_n 2, 1) := by decide +kernel
theorem dL_law_515 : decode cL_law 515 = .ok (.aload_n 0, 1) := by decide +kernel
theorem dL_law_516 : decode cL_law 516 = .ok (.iload_n 3, 1) := by decide +kernel
theorem dL_law_517 : decode cL_law 517 = .ok (.iconst 1, 1) := by decide +kernel
theorem dL_law_518 : decode cL_law 518 = .ok (.iadd, 1) := by decide +kernel
theorem dL_law_519 : decode cL_law 519 = .ok (.iaload, 1) := by decide +kernel
theorem dL_law_520 : decode cL_law 520 = .ok (.invokevirtual 71, 3) := by decide +kernel
theorem dL_law_523 : decode cL_law 523 = .ok (.pop, 1) := by decide +kernel
theorem dL_law_524 : decode cL_law 524 = .ok (.goto 184, 3) := by decide +kernel
theorem dL_law_527 : decode cL_law 527 = .ok (.aload_n 1, 1) := by decide +kernel
theorem dL_law_528 : decode cL_law 528 = .ok (.invokevirtual 72, 3) := by decide +kernel
theorem dL_law_531 : decode cL_law 531 = .ok (.pop, 1) := by decide +kernel
theorem dL_law_532 : decode cL_law 532 = .ok (.aload_n 2, 1) := by decide +kernel
theorem dL_law_533 : decode cL_law 533 = .ok (.invokevirtual 75, 3) := by decide +kernel
theorem dL_law_536 : decode cL_law 536 = .ok (.pop, 1) := by decide +kernel
theorem dL_law_537 : decode cL_law 537 = .ok (.goto 171, 3) := by decide +kernel
theorem dL_law_540 : decode cL_law 540 = .ok (.aload_n 1, 1) := by decide +kernel
theorem dL_law_541 : decode cL_law 541 = .ok (.aload_n 0, 1) := by decide +kernel
theorem dL_law_542 : decode cL_law 542 = .ok (.iload_n 3, 1) := by decide +kernel
theorem dL_law_543 : decode cL_law 543 = .ok (.iconst 1, 1) := by decide +kernel
theorem dL_law_544 : decode cL_law 544 = .ok (.iadd, 1) := by decide +kernel
theorem dL_law_545 : decode cL_law 545 = .ok (.iaload, 1) := by decide +kernel
theorem dL_law_546 : decode cL_law 546 = .ok (.aload_n 0, 1) := by decide +kernel
theorem dL_law_547 : decode cL_law 547 = .ok (.iload_n 3, 1) := by decide +kernel
theorem dL_law_548 : decode cL_law 548 = .ok (.iconst 2, 1) := by decide +kernel
theorem dL_law_549 : decode cL_law 549 = .ok (.iadd, 1) := by decide +kernel
theorem dL_law_550 : decode cL_law 550 = .ok (.iaload, 1) := by decide +kernel
theorem dL_law_551 : decode cL_law 551 = .ok (.invokevirtual 76, 3) := by decide +kernel
theorem dL_law_554 : decode cL_law 554 = .ok (.pop, 1) := by decide +kernel
theorem dL_law_555 : decode cL_law 555 = .ok (.aload_n 2, 1) := by decide +kernel
theorem dL_law_556 : decode cL_law 556 = .ok (.aload_n 0, 1) := by decide +kernel
theorem dL_law_557 : decode cL_law 557 = .ok (.iload_n 3, 1) := by decide +kernel
theorem dL_law_558 : decode cL_law 558 = .ok (.iconst 1, 1) := by decide +kernel
theorem dL_law_559 : decode cL_law 559 = .ok (.iadd, 1) := by decide +kernel
theorem dL_law_560 : decode cL_law 560 = .ok (.iaload, 1) := by decide +kernel
theorem dL_law_561 : decode cL_law 561 = .ok (.aload_n 0, 1) := by decide +kernel
theorem dL_law_562 : decode cL_law 562 = .ok (.iload_n 3, 1) := by decide +kernel
theorem dL_law_563 : decode cL_law 563 = .ok (.iconst 2, 1) := by decide +kernel
theorem dL_law_564 : decode cL_law 564 = .ok (.iadd, 1) := by decide +kernel
theorem dL_law_565 : decode cL_law 565 = .ok (.iaload, 1) := by decide +kernel
theorem dL_law_566 : decode cL_law 566 = .ok (.invokevirtual 79, 3) := by decide +kernel
theorem dL_law_569 : decode cL_law 569 = .ok (.pop, 1) := by decide +kernel
theorem dL_law_570 : decode cL_law 570 = .ok (.goto 138, 3) := by decide +kernel
theorem dL_law_573 : decode cL_law 573 = .ok (.aload_n 1, 1) := by decide +kernel
theorem dL_law_574 : decode cL_law 574 = .ok (.aload_n 0, 1) := by decide +kernel
theorem dL_law_575 : decode cL_law 575 = .ok (.iload_n 3, 1) := by decide +kernel
theorem dL_law_576 : decode cL_law 576 = .ok (.iconst 1, 1) := by decide +kernel
theorem dL_law_577 : decode cL_law 577 = .ok (.iadd, 1) := by decide +kernel
theorem dL_law_578 : decode cL_law 578 = .ok (.iaload, 1) := by decide +kernel
theorem dL_law_579 : decode cL_law 579 = .ok (.aload_n 0, 1) := by decide +kernel
theorem dL_law_580 : decode cL_law 580 = .ok (.iload_n 3, 1) := by decide +kernel
theorem dL_law_581 : decode cL_law 581 = .ok (.iconst 2, 1) := by decide +kernel
theorem dL_law_582 : decode cL_law 582 = .ok (.iadd, 1) := by decide +kernel
theorem dL_law_583 : decode cL_law 583 = .ok (.iaload, 1) := by decide +kernel
theorem dL_law_584 : decode cL_law 584 = .ok (.invokevirtual 80, 3) := by decide +kernel
theorem dL_law_587 : decode cL_law 587 = .ok (.pop, 1) := by decide +kernel
theorem dL_law_588 : decode cL_law 588 = .ok (.aload_n 2, 1) := by decide +kernel
theorem dL_law_589 : decode cL_law 589 = .ok (.aload_n 0, 1) := by decide +kernel
theorem dL_law_590 : decode cL_law 590 = .ok (.iload_n 3, 1) := by decide +kernel
theorem dL_law_591 : decode cL_law 591 = .ok (.iconst 1, 1) := by decide +kernel
theorem dL_law_592 : decode cL_law 592 = .ok (.iadd, 1) := by decide +kernel
theorem dL_law_593 : decode cL_law 593 = .ok (.iaload, 1) := by decide +kernel
theorem dL_law_594 : decode cL_law 594 = .ok (.aload_n 0, 1) := by decide +kernel
theorem dL_law_595 : decode cL_law 595 = .ok (.iload_n 3, 1) := by decide +kernel
theorem dL_law_596 : decode cL_law 596 = .ok (.iconst 2, 1) := by decide +kernel
theorem dL_law_597 : decode cL_law 597 = .ok (.iadd, 1) := by decide +kernel
theorem dL_law_598 : decode cL_law 598 = .ok (.iaload, 1) := by decide +kernel
theorem dL_law_599 : decode cL_law 599 = .ok (.invokevirtual 83, 3) := by decide +kernel
theorem dL_law_602 : decode cL_law 602 = .ok (.pop, 1) := by decide +kernel
theorem dL_law_603 : decode cL_law 603 = .ok (.goto 105, 3) := by decide +kernel
theorem dL_law_606 : decode cL_law 606 = .ok (.aload_n 1, 1) := by decide +kernel
theorem dL_law_607 : decode cL_law 607 = .ok (.aload_n 0, 1) := by decide +kernel
theorem dL_law_608 : decode cL_law 608 = .ok (.iload_n 3, 1) := by decide +kernel
theorem dL_law_609 : decode cL_law 609 = .ok (.iconst 1, 1) := by decide +kernel
theorem dL_law_610 : decode cL_law 610 = .ok (.iadd, 1) := by decide +kernel
theorem dL_law_611 : decode cL_law 611 = .ok (.iaload, 1) := by decide +kernel
theorem dL_law_612 : decode cL_law 612 = .ok (.aload_n 0, 1) := by decide +kernel
theorem dL_law_613 : decode cL_law 613 = .ok (.iload_n 3, 1) := by decide +kernel
theorem dL_law_614 : decode cL_law 614 = .ok (.iconst 2, 1) := by decide +kernel
theorem dL_law_615 : decode cL_law 615 = .ok (.iadd, 1) := by decide +kernel
theorem dL_law_616 : decode cL_law 616 = .ok (.iaload, 1) := by decide +kernel
theorem dL_law_617 : decode cL_law 617 = .ok (.invokevirtual 84, 3) := by decide +kernel
theorem dL_law_620 : decode cL_law 620 = .ok (.pop, 1) := by decide +kernel
theorem dL_law_621 : decode cL_law 621 = .ok (.aload_n 2, 1) := by decide +kernel
theorem dL_law_622 : decode cL_law 622 = .ok (.aload_n 0, 1) := by decide +kernel
theorem dL_law_623 : decode cL_law 623 = .ok (.iload_n 3, 1) := by decide +kernel
theorem dL_law_624 : decode cL_law 624 = .ok (.iconst 1, 1) := by decide +kernel
theorem dL_law_625 : decode cL_law 625 = .ok (.iadd, 1) := by decide +kernel
theorem dL_law_626 : decode cL_law 626 = .ok (.iaload, 1) := by decide +kernel
theorem dL_law_627 : decode cL_law 627 = .ok (.aload_n 0, 1) := by decide +kernel
theorem dL_law_628 : decode cL_law 628 = .ok (.iload_n 3, 1) := by decide +kernel
theorem dL_law_629 : decode cL_law 629 = .ok (.iconst 2, 1) := by decide +kernel
theorem dL_law_630 : decode cL_law 630 = .ok (.iadd, 1) := by decide +kernel
theorem dL_law_631 : decode cL_law 631 = .ok (.iaload, 1) := by decide +kernel
theorem dL_law_632 : decode cL_law 632 = .ok (.invokevirtual 87, 3) := by decide +kernel
theorem dL_law_635 : decode cL_law 635 = .ok (.pop, 1) := by decide +kernel
theorem dL_law_636 : decode cL_law 636 = .ok (.goto 72, 3) := by decide +kernel
theorem dL_law_639 : decode cL_law 639 = .ok (.aload_n 1, 1) := by decide +kernel
theorem dL_law_640 : decode cL_law 640 = .ok (.aload_n 0, 1) := by decide +kernel
theorem dL_law_641 : decode cL_law 641 = .ok (.iload_n 3, 1) := by decide +kernel
theorem dL_law_642 : decode cL_law 642 = .ok (.iconst 1, 1) := by decide +kernel
theorem dL_law_643 : decode cL_law 643 = .ok (.iadd, 1) := by decide +kernel
theorem dL_law_644 : decode cL_law 644 = .ok (.iaload, 1) := by decide +kernel
theorem dL_law_645 : decode cL_law 645 = .ok (.aload_n 0, 1) := by decide +kernel
theorem dL_law_646 : decode cL_law 646 = .ok (.iload_n 3, 1) := by decide +kernel
theorem dL_law_647 : decode cL_law 647 = .ok (.iconst 2, 1) := by decide +kernel
theorem dL_law_648 : decode cL_law 648 = .ok (.iadd, 1) := by decide +kernel
theorem dL_law_649 : decode cL_law 649 = .ok (.iaload, 1) := by decide +kernel
theorem dL_law_650 : decode cL_law 650 = .ok (.invokevirtual 88, 3) := by decide +kernel
theorem dL_law_653 : decode cL_law 653 = .ok (.pop, 1) := by decide +kernel
theorem dL_law_654 : decode cL_law 654 = .ok (.aload_n 2, 1) := by decide +kernel
theorem dL_law_655 : decode cL_law 655 = .ok (.aload_n 0, 1) := by decide +kernel
theorem dL_law_656 : decode cL_law 656 = .ok (.iload_n 3, 1) := by decide +kernel
theorem dL_law_657 : decode cL_law 657 = .ok (.iconst 1, 1) := by decide +kernel
theorem dL_law_658 : decode cL_law 658 = .ok (.iadd, 1) := by decide +kernel
theorem dL_law_659 : decode cL_law 659 = .ok (.iaload, 1) := by decide +kernel
theorem dL_law_660 : decode cL_law 660 = .ok (.aload_n 0, 1) := by decide +kernel
theorem dL_law_661 : decode cL_law 661 = .ok (.iload_n 3, 1) := by decide +kernel
theorem dL_law_662 : decode cL_law 662 = .ok (.iconst 2, 1) := by decide +kernel
theorem dL_law_663 : decode cL_law 663 = .ok (.iadd, 1) := by decide +kernel
theorem dL_law_664 : decode cL_law 664 = .ok (.iaload, 1) := by decide +kernel
theorem dL_law_665 : decode cL_law 665 = .ok (.invokevirtual 91, 3) := by decide +kernel
theorem dL_law_668 : decode cL_law 668 = .ok (.pop, 1) := by decide +kernel
theorem dL_law_669 : decode cL_law 669 = .ok (.goto 39, 3) := by decide +kernel
theorem dL_law_672 : decode cL_law 672 = .ok (.aload_n 1, 1) := by decide +kernel
theorem dL_law_673 : decode cL_law 673 = .ok (.invokevirtual 92, 3) := by decide +kernel
theorem dL_law_676 : decode cL_law 676 = .ok (.pop, 1) := by decide +kernel
theorem dL_law_677 : decode cL_law 677 = .ok (.aload_n 2, 1) := by decide +kernel
theorem dL_law_678 : decode cL_law 678 = .ok (.invokevirtual 95, 3) := by decide +kernel
theorem dL_law_681 : decode cL_law 681 = .ok (.pop, 1) := by decide +kernel
theorem dL_law_682 : decode cL_law 682 = .ok (.goto 26, 3) := by decide +kernel
theorem dL_law_685 : decode cL_law 685 = .ok (.aload_n 1, 1) := by decide +kernel
theorem dL_law_686 : decode cL_law 686 = .ok (.aload_n 0, 1) := by decide +kernel
theorem dL_law_687 : decode cL_law 687 = .ok (.iload_n 3, 1) := by decide +kernel
theorem dL_law_688 : decode cL_law 688 = .ok (.iconst 1, 1) := by decide +kernel
theorem dL_law_689 : decode cL_law 689 = .ok (.iadd, 1) := by decide +kernel
theorem dL_law_690 : decode cL_law 690 = .ok (.iaload, 1) := by decide +kernel
theorem dL_law_691 : decode cL_law 691 = .ok (.invokevirtual 96, 3) := by decide +kernel
theorem dL_law_694 : decode cL_law 694 = .ok (.pop, 1) := by decide +kernel
theorem dL_law_695 : decode cL_law 695 = .ok (.aload_n 2, 1) := by decide +kernel
theorem dL_law_696 : decode cL_law 696 = .ok (.aload_n 0, 1) := by decide +kernel
theorem dL_law_697 : decode cL_law 697 = .ok (.iload_n 3, 1) := by decide +kernel
theorem dL_law_698 : decode cL_law 698 = .ok (.iconst 1, 1) := by decide +kernel
theorem dL_law_699 : decode cL_law 699 = .ok (.iadd, 1) := by decide +kernel
theorem dL_law_700 : decode cL_law 700 = .ok (.iaload, 1) := by decide +kernel
theorem dL_law_701 : decode cL_law 701 = .ok (.invokevirtual 99, 3) := by decide +kernel
theorem dL_law_704 : decode cL_law 704 = .ok (.pop, 1) := by decide +kernel
theorem dL_law_705 : decode cL_law 705 = .ok (.goto 3, 3) := by decide +kernel
theorem dL_law_708 : decode cL_law 708 = .ok (.iinc 3 6, 3) := by decide +kernel
theorem dL_law_711 : decode cL_law 711 = .ok (.goto (-693), 3) := by decide +kernel
theorem dL_law_714 : decode cL_law 714 = .ok (.iconst 1, 1) := by decide +kernel
theorem dL_law_715 : decode cL_law 715 = .ok (.ireturn, 1) := by decide +kernel
end
section
/-! THE JUDGEMENT V: cells by numbers (Z: kind, length, references; M: ints by cell and slot), real addresses by 'ad' -/
abbrev MT : Type := Nat → Nat → Int32
abbrev ZC : Type := Nat × Nat × List (Option Nat)
abbrev ZT : Type := List ZC
def tbG : List Cond := lw_tbl.filter goodWord
theorem tbG_in {w : Cond} (i : Nat) (h : lw_tbl[i]? = some w) (g : goodWord w = true) : w ∈ tbG := List.mem_filter.mpr ⟨List.mem_of_getElem? h, g⟩
theorem tbG_good : ∀ w ∈ tbG, w ∈ tbG ∧ ((w.onTables && w.keeps) = true ∨ ∃ ty, w = .arrayClass ty) := fun w h => ⟨h, good_of_word (List.mem_filter.mp h).2⟩
def kFl : Nat → List Bool
  | 0 => [false, false, false, false, false, false, false]
  | 1 => [false, false, false, false, false, true, true, true, true, false, true, true, true, true, true]
  | 2 => [true, false]
  | 3 => [true, true, true, true, true, false, false, false]
  | 4 => [false, false, false, false, false]
  | 5 => [false, false, false, false, false, false, false, false, false]
  | 6 => [true, false]
  | 7 => [true, false, true, true, true, false]
  | 8 => [true, true, true, true, true, true, true, true, false, false, false, false, false, false, false]
  | 9 => [false, false, false, false, false, false, false, false, false, false, true, true, true, true, true, true, true, true, true, true, true, true, true, true, true, true, true, false, false, false, false, false, true, true, true, true, true, true, true, true, true, true, true, false, false, true, true, true]
  | _ => []
def kV (ad : Nat → Nat) (rs : List (Option Nat)) (m : Nat → Int32) : List Bool → Nat → List Value
  | [], _ => []
  | b :: bs, k => (if b then va_rf ((rs.getD k none).map ad) else .int (m k)) :: kV ad rs m bs (k + 1)
theorem kV_get (ad : Nat → Nat) (rs : List (Option Nat)) (m : Nat → Int32) : ∀ (bs : List Bool) (k j : Nat) (b : Bool), bs[j]? = some b → (kV ad rs m bs k)[j]? = some (if b then va_rf ((rs.getD (k + j) none).map ad) else .int (m (k + j))) := by
  intro bs
  induction bs with
  | nil => intro k j b h; simp at h
  | cons c bs ih =>
    intro k j b h
    cases j with
    | zero => simp only [List.getElem?_cons_zero, Option.some.injEq] at h; subst h; simp [kV]
    | succ j =>
      simp only [List.getElem?_cons_succ] at h
      simp only [kV, List.getElem?_cons_succ]
      rw [ih (k + 1) j b h, show k + 1 + j = k + (j + 1) by omega]
theorem kV_len (ad : Nat → Nat) (rs : List (Option Nat)) (m : Nat → Int32) : ∀ (bs : List Bool) (k : Nat), (kV ad rs m bs k).length = bs.length := by
  intro bs
  induction bs with
  | nil => intro k; rfl
  | cons c bs ih => intro k; simp [kV, ih]
theorem kV_congr {ad ad' : Nat → Nat} {rs rs' : List (Option Nat)} {m m' : Nat → Int32} : ∀ (bs : List Bool) (k : Nat), (∀ i, k ≤ i → m i = m' i) → (∀ i, k ≤ i → (rs.getD i none).map ad = (rs'.getD i none).map ad') → kV ad rs m bs k = kV ad' rs' m' bs k := by
  intro bs
  induction bs with
  | nil => intro k _ _; rfl
  | cons c bs ih =>
    intro k h1 h2
    simp only [kV]
    rw [h1 k (Nat.le_refl _), h2 k (Nat.le_refl _), ih (k + 1) (fun i hi => h1 i (by omega)) (fun i hi => h2 i (by omega))]
theorem kV_setI {ad : Nat → Nat} {rs : List (Option Nat)} {v : Int32} : ∀ (bs : List Bool) (m : Nat → Int32) (k j : Nat), bs[j]? = some false → (kV ad rs m bs k).set j (.int v) = kV ad rs (va_up m (k + j) v) bs k := by
  intro bs
  induction bs with
  | nil => intro m k j h; simp at h
  | cons c bs ih =>
    intro m k j h
    cases j with
    | zero =>
      simp only [List.getElem?_cons_zero, Option.some.injEq] at h
      subst h
      simp only [kV, List.set_cons_zero]
      rw [kV_congr bs (k + 1) (m' := va_up m (k + 0) v) (fun i hi => by simp only [va_up]; rw [if_neg (by omega)]) (fun i _ => rfl)]
      simp [va_up]
    | succ j =>
      simp only [List.getElem?_cons_succ] at h
      simp only [kV, List.set_cons_succ]
      rw [ih m (k + 1) j h, show k + 1 + j = k + (j + 1) by omega]
      have : va_up m (k + (j + 1)) v k = m k := by simp only [va_up]; rw [if_neg (by omega)]
      rw [this]
theorem kV_setR {ad : Nat → Nat} {m : Nat → Int32} {r : Nat} : ∀ (bs : List Bool) (rs : List (Option Nat)) (k j : Nat), bs[j]? = some true → k + j < rs.length → (kV ad rs m bs k).set j (.ref (ad r)) = kV ad (rs.set (k + j) (some r)) m bs k := by
  intro bs
  induction bs with
  | nil => intro rs k j h; simp at h
  | cons c bs ih =>
    intro rs k j h hl
    cases j with
    | zero =>
      simp only [List.getElem?_cons_zero, Option.some.injEq] at h
      subst h
      simp only [kV, List.set_cons_zero]
      rw [kV_congr bs (k + 1) (rs' := rs.set (k + 0) (some r)) (fun i hi => rfl) (fun i hi => by simp only [List.getD_eq_getElem?_getD]; rw [List.getElem?_set_ne (by omega)])]
      simp only [Nat.add_zero, List.getD_eq_getElem?_getD, if_true]
      rw [List.getElem?_set_self (by omega)]
      simp [va_rf]
    | succ j =>
      simp only [List.getElem?_cons_succ] at h
      simp only [kV, List.set_cons_succ]
      rw [ih rs (k + 1) j h (by omega), show k + 1 + j = k + (j + 1) by omega]
      have : (rs.set (k + (j + 1)) (some r)).getD k none = rs.getD k none := by simp only [List.getD_eq_getElem?_getD]; rw [List.getElem?_set_ne (by omega)]
      rw [this]
/-- what a cell holds -/
def cE (cy : Nat → ClassId) (ad : Nat → Nat) (z : ZC) (m : Nat → Int32) : va_E :=
  if z.1 < 10 then .inr (z.1, kV ad z.2.2 m (kFl z.1) 0) else if z.1 < 13 then .inl (cy z.1, z.2.1, .inl m) else .inl (cy z.1, z.2.1, .inr (.inr (.inr (.inr (fun k => (z.2.2.getD k none).map ad)))))
def wl (cy : Nat → ClassId) (ad : Nat → Nat) (Z : ZT) (M : MT) : va_W := Z.mapIdx (fun i z => (ad i, cE cy ad z (M i)))
def zok (Z : ZT) : Prop := ∀ z ∈ Z, ∀ j, some j ∈ z.2.2 → j < Z.length
def up2 (M : MT) (i k : Nat) (v : Int32) : MT := va_up M i (va_up (M i) k v)
theorem wl_get {cy : Nat → ClassId} {ad : Nat → Nat} {Z : ZT} {M : MT} {X : va_W} {i : Nat} {z : ZC} (h : Z[i]? = some z) : (X ++ wl cy ad Z M)[X.length + i]? = some (ad i, cE cy ad z (M i)) := by
  rw [List.getElem?_append_right (by omega), show X.length + i - X.length = i by omega]
  simp [wl, List.getElem?_mapIdx, h]
theorem wl_setM {cy : Nat → ClassId} {ad : Nat → Nat} {Z : ZT} {M : MT} {X : va_W} {i : Nat} {z : ZC} {m : Nat → Int32} (h : Z[i]? = some z) : (X ++ wl cy ad Z M).set (X.length + i) (ad i, cE cy ad z m) = X ++ wl cy ad Z (va_up M i m) := by
  rw [List.set_append_right _ _ (by omega), show X.length + i - X.length = i by omega]
  congr 1
  apply List.ext_getElem?
  intro j
  by_cases hj : j = i
  · subst hj
    have hl : j < Z.length := (List.getElem?_eq_some_iff.mp h).1
    rw [List.getElem?_set_self (by simp [wl, hl])]
    simp [wl, List.getElem?_mapIdx, h, va_up]
  · rw [List.getElem?_set_ne (fun q => hj q.symm)]
    simp only [wl, List.getElem?_mapIdx, va_up, if_neg hj]
theorem wl_setZ {cy : Nat → ClassId} {ad : Nat → Nat} {Z : ZT} {M : MT} {X : va_W} {i : Nat} {z z' : ZC} (h : Z[i]? = some z) : (X ++ wl cy ad Z M).set (X.length + i) (ad i, cE cy ad z' (M i)) = X ++ wl cy ad (Z.set i z') M := by
  rw [List.set_append_right _ _ (by omega), show X.length + i - X.length = i by omega]
  congr 1
  apply List.ext_getElem?
  intro j
  by_cases hj : j = i
  · subst hj
    have hl : j < Z.length := (List.getElem?_eq_some_iff.mp h).1
    rw [List.getElem?_set_self (by simp [wl, hl])]
    simp only [wl, List.getElem?_mapIdx, List.getElem?_set_self hl, Option.map_some]
  · rw [List.getElem?_set_ne (fun q => hj q.symm)]
    simp only [wl, List.getElem?_mapIdx, List.getElem?_set_ne (fun q => hj q.symm)]
theorem cE_ad {cy : Nat → ClassId} {ad ad' : Nat → Nat} {z : ZC} {m : Nat → Int32} {n : Nat} (h : ∀ j, some j ∈ z.2.2 → j < n) (ha : ∀ j, j < n → ad j = ad' j) : cE cy ad z m = cE cy ad' z m := by
  have key : ∀ k, (z.2.2.getD k none).map ad = (z.2.2.getD k none).map ad' := by
    intro k
    cases hk : z.2.2.getD k none with
    | none => rfl
    | some j =>
      have : some j ∈ z.2.2 := by
        rw [List.getD_eq_getElem?_getD] at hk
        cases h2 : z.2.2[k]? with
        | none => rw [h2] at hk; cases hk
        | some r => rw [h2] at hk; cases hk; exact List.mem_of_getElem? h2
      simp [ha j (h j this)]
  unfold cE
  rw [kV_congr (ad' := ad') (rs' := z.2.2) (m' := m) _ _ (fun _ _ => rfl) (fun k _ => key k)]
  simp only [key]
theorem wl_push {cy : Nat → ClassId} {ad : Nat → Nat} {Z : ZT} {M : MT} {X : va_W} {q : Nat} {z : ZC} {m : Nat → Int32} (hz : zok Z) : (X ++ wl cy ad Z M) ++ [(q, cE cy (va_up ad Z.length q) z m)] = X ++ wl cy (va_up ad Z.length q) (Z ++ [z]) (va_up M Z.length m) := by
  rw [List.append_assoc]
  congr 1
  apply List.ext_getElem?
  intro j
  have hlen : (wl cy ad Z M).length = Z.length := by simp [wl]
  rcases Nat.lt_trichotomy j Z.length with hj | hj | hj
  · rw [List.getElem?_append_left (by omega)]
    simp only [wl, List.getElem?_mapIdx, List.getElem?_append_left hj]
    cases h2 : Z[j]? with
    | none => rfl
    | some y =>
      simp only [Option.map_some, va_up, if_neg (Nat.ne_of_lt hj)]
      rw [cE_ad (ad' := fun j => if j = Z.length then q else ad j) (hz y (List.mem_of_getElem? h2)) (fun j hj => by simp [Nat.ne_of_lt hj])]
      rfl
  · subst hj
    rw [List.getElem?_append_right (by omega), hlen]
    simp [wl, List.getElem?_mapIdx, va_up]
  · rw [List.getElem?_eq_none (by simp [hlen]; omega), List.getElem?_eq_none (by simp [wl]; omega)]
theorem zok_push {Z : ZT} {z : ZC} (h : zok Z) (hn : ∀ j, some j ∈ z.2.2 → j < Z.length + 1) : zok (Z ++ [z]) := by
  intro y hy j hj
  simp only [List.length_append, List.length_cons, List.length_nil]
  rcases List.mem_append.mp hy with h1 | h1
  · have := h y h1 j hj; omega
  · rw [List.mem_singleton] at h1; subst h1; have := hn j hj; omega
theorem zok_setR {Z : ZT} {i k r : Nat} {ci n : Nat} {rs : List (Option Nat)} (h : zok Z) (hi : Z[i]? = some (ci, n, rs)) (hr : r < Z.length) : zok (Z.set i (ci, n, rs.set k (some r))) := by
  intro y hy j hj
  rw [List.length_set]
  rcases List.mem_or_eq_of_mem_set hy with h1 | h1
  · exact h y h1 j hj
  · subst h1
    rcases List.mem_or_eq_of_mem_set hj with h2 | h2
    · exact h _ (List.mem_of_getElem? hi) j h2
    · cases h2; exact hr
abbrev tyL (cy : Nat → ClassId) : List (ClassId × FieldType) := [(cy 10, .byte), (cy 11, .int), (cy 12, .boolean), (cy 13, .object "PeatBog$Bay"), (cy 14, .object "PeatBog$Law"), (cy 15, .object "PeatBog$Stack")]
abbrev nestL : List (String × Nat × MethodName × String) := [("PeatBog", 27, ⟨"PeatBog$Law", "<init>", "()V"⟩, "PeatBog"), ("PeatBog", 34, ⟨"PeatBog$PowerHouse", "<init>", "()V"⟩, "PeatBog"), ("PeatBog", 41, ⟨"PeatBog$Tape", "<init>", "()V"⟩, "PeatBog"), ("PeatBog", 57, ⟨"PeatBog$Laying", "<init>", "()V"⟩, "PeatBog"), ("PeatBog", 84, ⟨"PeatBog$Bay", "<init>", "()V"⟩, "PeatBog"), ("PeatBog", 85, ⟨"PeatBog$Stack", "<init>", "()V"⟩, "PeatBog"), ("PeatBog$Law", 58, ⟨"PeatBog", "within", "(III)Z"⟩, "PeatBog"), ("PeatBog$Laying", 37, ⟨"PeatBog", "within", "(III)Z"⟩, "PeatBog"), ("PeatBog$Laying", 64, ⟨"PeatBog", "isBay", "(I)Z"⟩, "PeatBog")]
/-- what the tables say beside the words: classes, array classes, private members of nest mates -/
def KK (D : va_G) (cy : Nat → ClassId) (U : State) : Prop := va_K D vwCl (tyL cy) U ∧ (∀ C ∈ ["PeatBog$Bay", "PeatBog$Law", "PeatBog$Stack"], va_AO C U) ∧ ∀ q ∈ nestL, va_Nw (.methodLinkNest q.1 q.2.1 q.2.2.1 q.2.2.2) U
theorem KK.warm {D : va_G} {cy : Nat → ClassId} {s U : State} (hW : s.WarmedH U.vm) (h : KK D cy s) : KK D cy U := ⟨va_K.moved hW.alike h.1, fun C hC => va_AO.moved hW.alike (h.2.1 C hC), fun q hq => va_Nw.warmM hW (h.2.2 q hq)⟩
theorem KK.calling {D : va_G} {cy : Nat → ClassId} {U : State} {g : JFrame} {mk : MethodId} {a : Array Value} (h : KK D cy U) : KK D cy (U.calling g mk a) := ⟨va_K.moved (u := U) (U := U.calling g mk a) (Vm.Alike.refl U.vm) h.1, fun C hC => va_AO.moved (u := U) (U := U.calling g mk a) (Vm.Alike.refl U.vm) (h.2.1 C hC), fun q hq => va_Nw.same (u := U) rfl rfl (h.2.2 q hq)⟩
abbrev KT : Type := Program × Launch × Env × Room × State × MethodId × Array Value × List Frame × Method × Code × (State → Prop) × va_G × (Nat → ClassId) × (Nat → Prop) × Nat × va_W
abbrev kp (K : KT) := K.1
abbrev kl (K : KT) := K.2.1
abbrev ke (K : KT) := K.2.2.1
abbrev kR (K : KT) := K.2.2.2.1
abbrev ks (K : KT) := K.2.2.2.2.1
abbrev km (K : KT) := K.2.2.2.2.2.1
abbrev ka (K : KT) := K.2.2.2.2.2.2.1
abbrev kb (K : KT) := K.2.2.2.2.2.2.2.1
abbrev kmt (K : KT) := K.2.2.2.2.2.2.2.2.1
abbrev kc (K : KT) := K.2.2.2.2.2.2.2.2.2.1
abbrev kQ (K : KT) := K.2.2.2.2.2.2.2.2.2.2.1
abbrev kD (K : KT) := K.2.2.2.2.2.2.2.2.2.2.2.1
abbrev ky (K : KT) := K.2.2.2.2.2.2.2.2.2.2.2.2.1
abbrev kA (K : KT) := K.2.2.2.2.2.2.2.2.2.2.2.2.2.1
abbrev kn (K : KT) := K.2.2.2.2.2.2.2.2.2.2.2.2.2.2.1
abbrev kX (K : KT) := K.2.2.2.2.2.2.2.2.2.2.2.2.2.2.2
/-- from frame (pc, lv, st) with the cells (Z, M): the machine comes to its goal -/
def V (K : KT) (ad : Nat → Nat) (n1 n2 : Nat) (Z : ZT) (M : MT) (pc : Nat) (lv : List (Nat × Value)) (st : List Value) : Prop :=
  ∀ (H : Heap) (locs : List Loc) (ls : Array Slot), zok Z → va_P (kD K) vwCl (kX K ++ wl (ky K) ad Z M) H → va_D (kA K) (kX K ++ wl (ky K) ad Z M) → va_S (kA K) (ks K).heap H locs → lv_has ls (kn K) lv →
    W (kp K) (kl K) (ke K) (kR K) (ks K) (km K) (ka K) (kb K) (kmt K) (kc K) H locs n1 n2 (kQ K) (F0 (km K) pc ls st)
/-- what is fixed through a method's walk -/
def Fx (K : KT) (cc : ByteArray) (own : String) (nL : Nat) (rm : Room) : Prop :=
  (kp K).tables.exec = Jvm.exec ∧ (kc K).code = cc ∧ (kc K).maxLocals = kn K ∧ kn K = nL ∧ (ks K).vm.findClass own = some (km K).cls ∧ (∀ w ∈ tbG, w.before (ka K) (ks K) = true) ∧ KK (kD K) (ky K) (ks K) ∧ (∀ q, (ks K).heap.size ≤ q → kA K q) ∧ kR K = rm ∧ (kmt K).locks = false
section VR
variable {K : KT} {cc : ByteArray} {own : String} {nL : Nat} {rm : Room} {ad : Nat → Nat} {n1 n2 : Nat} {Z : ZT} {M : MT} {pc : Nat} {lv : List (Nat × Value)} {st : List Value}
theorem V.sub {lv' : List (Nat × Value)} (ks : List Nat) (h : lv_pick lv ks = lv') (k : V K ad n1 n2 Z M pc lv' st) : V K ad n1 n2 Z M pc lv st := fun H locs ls hz hP hD hS hl => k H locs ls hz hP hD hS (lv_sub hl ks h)
theorem V.widen {k n : Nat} (h1 : n1 ≤ k) (h2 : n2 ≤ n) (kk : V K ad k n Z M pc lv st) : V K ad n1 n2 Z M pc lv st := fun H locs ls hz hP hD hS hl => W.widen h1 h2 (kk H locs ls hz hP hD hS hl)
theorem V_iload_n (f : Fx K cc own nL rm) {k : Fin 4} {x : Int32} (hd : decode cc pc = .ok (.iload_n k, 1)) (j : Nat) (hj : lv[j]? = some ((k : Nat), .int x)) (k : V K ad n1 n2 Z M (pc + 1) lv (.int x :: st)) : V K ad n1 n2 Z M pc lv (st) := fun H locs ls hz hP hD hS hl => lv_iload_n f.1 f.2.1 hd rfl (lv_at hl j hj) (k H locs ls hz hP hD hS hl)
theorem V_iload (f : Fx K cc own nL rm) {i : Nat} {x : Int32} (hd : decode cc pc = .ok (.iload i, 2)) (j : Nat) (hj : lv[j]? = some (i, .int x)) (k : V K ad n1 n2 Z M (pc + 2) lv (.int x :: st)) : V K ad n1 n2 Z M pc lv (st) := fun H locs ls hz hP hD hS hl => lv_iload f.1 f.2.1 hd (lv_at hl j hj) (k H locs ls hz hP hD hS hl)
theorem V_istore_n (f : Fx K cc own nL rm) {k : Fin 4} {i : Nat} {x : Int32} (hd : decode cc pc = .ok (.istore_n k, 1)) (hi : (k : Nat) = i) (hn : i < nL) {lv' : List (Nat × Value)} (hl : (i, Value.int x) :: lv.filter (fun q => !(q.1 == i) && !(q.1 + 1 == i && q.2.category == 2)) = lv') (k : V K ad n1 n2 Z M (pc + 1) lv' st) : V K ad n1 n2 Z M pc lv (.int x :: st) := fun H locs ls hz hP hD hS h9 => lv_istore_n f.1 f.2.1 hd hi h9 (by rw [f.2.2.2.1]; exact hn) hl (fun ls' hl' => k H locs ls' hz hP hD hS hl')
theorem V_istore (f : Fx K cc own nL rm) {i : Nat} {x : Int32} (hd : decode cc pc = .ok (.istore i, 2)) (hn : i < nL) {lv' : List (Nat × Value)} (hl : (i, Value.int x) :: lv.filter (fun q => !(q.1 == i) && !(q.1 + 1 == i && q.2.category == 2)) = lv') (k : V K ad n1 n2 Z M (pc + 2) lv' st) : V K ad n1 n2 Z M pc lv (.int x :: st) := fun H locs ls hz hP hD hS h9 => lv_istore f.1 f.2.1 hd h9 (by rw [f.2.2.2.1]; exact hn) hl (fun ls' hl' => k H locs ls' hz hP hD hS hl')
theorem V_aload_n (f : Fx K cc own nL rm) {k : Fin 4} {x : Nat} (hd : decode cc pc = .ok (.aload_n k, 1)) (j : Nat) (hj : lv[j]? = some ((k : Nat), .ref x)) (k : V K ad n1 n2 Z M (pc + 1) lv (.ref x :: st)) : V K ad n1 n2 Z M pc lv (st) := fun H locs ls hz hP hD hS hl => lv_aload_n f.1 f.2.1 hd rfl (lv_at hl j hj) (k H locs ls hz hP hD hS hl)
theorem V_aload (f : Fx K cc own nL rm) {i : Nat} {x : Nat} (hd : decode cc pc = .ok (.aload i, 2)) (j : Nat) (hj : lv[j]? = some (i, .ref x)) (k : V K ad n1 n2 Z M (pc + 2) lv (.ref x :: st)) : V K ad n1 n2 Z M pc lv (st) := fun H locs ls hz hP hD hS hl => lv_aload f.1 f.2.1 hd (lv_at hl j hj) (k H locs ls hz hP hD hS hl)
theorem V_astore_n (f : Fx K cc own nL rm) {k : Fin 4} {i : Nat} {x : Nat} (hd : decode cc pc = .ok (.astore_n k, 1)) (hi : (k : Nat) = i) (hn : i < nL) {lv' : List (Nat × Value)} (hl : (i, Value.ref x) :: lv.filter (fun q => !(q.1 == i) && !(q.1 + 1 == i && q.2.category == 2)) = lv') (k : V K ad n1 n2 Z M (pc + 1) lv' st) : V K ad n1 n2 Z M pc lv (.ref x :: st) := fun H locs ls hz hP hD hS h9 => lv_astore_n f.1 f.2.1 hd hi h9 (by rw [f.2.2.2.1]; exact hn) hl (fun ls' hl' => k H locs ls' hz hP hD hS hl')
theorem V_astore (f : Fx K cc own nL rm) {i : Nat} {x : Nat} (hd : decode cc pc = .ok (.astore i, 2)) (hn : i < nL) {lv' : List (Nat × Value)} (hl : (i, Value.ref x) :: lv.filter (fun q => !(q.1 == i) && !(q.1 + 1 == i && q.2.category == 2)) = lv') (k : V K ad n1 n2 Z M (pc + 2) lv' st) : V K ad n1 n2 Z M pc lv (.ref x :: st) := fun H locs ls hz hP hD hS h9 => lv_astore f.1 f.2.1 hd h9 (by rw [f.2.2.2.1]; exact hn) hl (fun ls' hl' => k H locs ls' hz hP hD hS hl')
theorem V_lload_n (f : Fx K cc own nL rm) {k : Fin 4} {x : Int64} (hd : decode cc pc = .ok (.lload_n k, 1)) (j : Nat) (hj : lv[j]? = some ((k : Nat), .long x)) (k : V K ad n1 n2 Z M (pc + 1) lv (.long x :: st)) : V K ad n1 n2 Z M pc lv (st) := fun H locs ls hz hP hD hS hl => lv_lload_n f.1 f.2.1 hd rfl (lv_at hl j hj) (k H locs ls hz hP hD hS hl)
theorem V_lload (f : Fx K cc own nL rm) {i : Nat} {x : Int64} (hd : decode cc pc = .ok (.lload i, 2)) (j : Nat) (hj : lv[j]? = some (i, .long x)) (k : V K ad n1 n2 Z M (pc + 2) lv (.long x :: st)) : V K ad n1 n2 Z M pc lv (st) := fun H locs ls hz hP hD hS hl => lv_lload f.1 f.2.1 hd (lv_at hl j hj) (k H locs ls hz hP hD hS hl)
theorem V_lstore_n (f : Fx K cc own nL rm) {k : Fin 4} {i : Nat} {x : Int64} (hd : decode cc pc = .ok (.lstore_n k, 1)) (hi : (k : Nat) = i) (hn : i + 1 < nL) {lv' : List (Nat × Value)} (hl : (i, Value.long x) :: lv.filter (fun q => !(q.1 == i) && (!(q.1 == i + 1) && !(q.1 + 1 == i && q.2.category == 2))) = lv') (k : V K ad n1 n2 Z M (pc + 1) lv' st) : V K ad n1 n2 Z M pc lv (.long x :: st) := fun H locs ls hz hP hD hS h9 => lv_lstore_n f.1 f.2.1 hd hi h9 (by rw [f.2.2.2.1]; exact hn) hl (fun ls' hl' => k H locs ls' hz hP hD hS hl')
theorem V_lstore (f : Fx K cc own nL rm) {i : Nat} {x : Int64} (hd : decode cc pc = .ok (.lstore i, 2)) (hn : i + 1 < nL) {lv' : List (Nat × Value)} (hl : (i, Value.long x) :: lv.filter (fun q => !(q.1 == i) && (!(q.1 == i + 1) && !(q.1 + 1 == i && q.2.category == 2))) = lv') (k : V K ad n1 n2 Z M (pc + 2) lv' st) : V K ad n1 n2 Z M pc lv (.long x :: st) := fun H locs ls hz hP hD hS h9 => lv_lstore f.1 f.2.1 hd h9 (by rw [f.2.2.2.1]; exact hn) hl (fun ls' hl' => k H locs ls' hz hP hD hS hl')
theorem V_iinc (f : Fx K cc own nL rm) {i : Nat} {n : Int} {x v : Int32} (hd : decode cc pc = .ok (.iinc i n, 3)) (j : Nat) (hj : lv[j]? = some (i, .int x)) (hv : x + Int32.ofInt n = v) (hn : i < nL) {lv' : List (Nat × Value)} (hl : (i, Value.int v) :: lv.filter (fun q => !(q.1 == i) && !(q.1 + 1 == i && q.2.category == 2)) = lv') (k : V K ad n1 n2 Z M (pc + 3) lv' st) : V K ad n1 n2 Z M pc lv st := fun H locs ls hz hP hD hS h9 => lv_iinc f.1 f.2.1 hd h9 hj hv (by rw [f.2.2.2.1]; exact hn) hl (fun ls' hl' => k H locs ls' hz hP hD hS hl')
theorem V_iconst (f : Fx K cc own nL rm) {n : Int} {v : Int32} (hd : decode cc pc = .ok (.iconst n, 1)) (hv : Int32.ofInt n = v) (k : V K ad n1 n2 Z M (pc + 1) lv (.int v :: st)) : V K ad n1 n2 Z M pc lv (st) := fun H locs ls hz hP hD hS hl => lv_iconst f.1 f.2.1 hd hv (k H locs ls hz hP hD hS hl)
theorem V_bipush (f : Fx K cc own nL rm) {n : Int} {v : Int32} (hd : decode cc pc = .ok (.bipush n, 2)) (hv : (Int8.ofInt n).toInt32 = v) (k : V K ad n1 n2 Z M (pc + 2) lv (.int v :: st)) : V K ad n1 n2 Z M pc lv (st) := fun H locs ls hz hP hD hS hl => lv_bipush f.1 f.2.1 hd hv (k H locs ls hz hP hD hS hl)
theorem V_sipush (f : Fx K cc own nL rm) {n : Int} {v : Int32} (hd : decode cc pc = .ok (.sipush n, 3)) (hv : (Int16.ofInt n).toInt32 = v) (k : V K ad n1 n2 Z M (pc + 3) lv (.int v :: st)) : V K ad n1 n2 Z M pc lv (st) := fun H locs ls hz hP hD hS hl => lv_sipush f.1 f.2.1 hd hv (k H locs ls hz hP hD hS hl)
theorem V_lconst (f : Fx K cc own nL rm) {n : Fin 2} {v : Int64} (hd : decode cc pc = .ok (.lconst n, 1)) (hv : Int64.ofNat (n : Nat) = v) (k : V K ad n1 n2 Z M (pc + 1) lv (.long v :: st)) : V K ad n1 n2 Z M pc lv (st) := fun H locs ls hz hP hD hS hl => lv_lconst f.1 f.2.1 hd hv (k H locs ls hz hP hD hS hl)
theorem V_iadd (f : Fx K cc own nL rm) {x y : Int32} (hd : decode cc pc = .ok (.iadd, 1)) (k : V K ad n1 n2 Z M (pc + 1) lv (.int (x + y) :: st)) : V K ad n1 n2 Z M pc lv (.int y :: .int x :: st) := fun H locs ls hz hP hD hS hl => lv_iadd f.1 f.2.1 hd (k H locs ls hz hP hD hS hl)
theorem V_isub (f : Fx K cc own nL rm) {x y : Int32} (hd : decode cc pc = .ok (.isub, 1)) (k : V K ad n1 n2 Z M (pc + 1) lv (.int (x - y) :: st)) : V K ad n1 n2 Z M pc lv (.int y :: .int x :: st) := fun H locs ls hz hP hD hS hl => lv_isub f.1 f.2.1 hd (k H locs ls hz hP hD hS hl)
theorem V_imul (f : Fx K cc own nL rm) {x y : Int32} (hd : decode cc pc = .ok (.imul, 1)) (k : V K ad n1 n2 Z M (pc + 1) lv (.int (x * y) :: st)) : V K ad n1 n2 Z M pc lv (.int y :: .int x :: st) := fun H locs ls hz hP hD hS hl => lv_imul f.1 f.2.1 hd (k H locs ls hz hP hD hS hl)
theorem V_iand (f : Fx K cc own nL rm) {x y : Int32} (hd : decode cc pc = .ok (.iand, 1)) (k : V K ad n1 n2 Z M (pc + 1) lv (.int (x &&& y) :: st)) : V K ad n1 n2 Z M pc lv (.int y :: .int x :: st) := fun H locs ls hz hP hD hS hl => lv_iand f.1 f.2.1 hd (k H locs ls hz hP hD hS hl)
theorem V_ior (f : Fx K cc own nL rm) {x y : Int32} (hd : decode cc pc = .ok (.ior, 1)) (k : V K ad n1 n2 Z M (pc + 1) lv (.int (x ||| y) :: st)) : V K ad n1 n2 Z M pc lv (.int y :: .int x :: st) := fun H locs ls hz hP hD hS hl => lv_ior f.1 f.2.1 hd (k H locs ls hz hP hD hS hl)
theorem V_ishl (f : Fx K cc own nL rm) {x y : Int32} (hd : decode cc pc = .ok (.ishl, 1)) (k : V K ad n1 n2 Z M (pc + 1) lv (.int (x <<< (y &&& 31)) :: st)) : V K ad n1 n2 Z M pc lv (.int y :: .int x :: st) := fun H locs ls hz hP hD hS hl => lv_ishl f.1 f.2.1 hd (k H locs ls hz hP hD hS hl)
theorem V_ishr (f : Fx K cc own nL rm) {x y : Int32} (hd : decode cc pc = .ok (.ishr, 1)) (k : V K ad n1 n2 Z M (pc + 1) lv (.int (x >>> (y &&& 31)) :: st)) : V K ad n1 n2 Z M pc lv (.int y :: .int x :: st) := fun H locs ls hz hP hD hS hl => lv_ishr f.1 f.2.1 hd (k H locs ls hz hP hD hS hl)
theorem V_idiv (f : Fx K cc own nL rm) {x y : Int32} (hd : decode cc pc = .ok (.idiv, 1)) (hne : ¬ y = 0) (k : V K ad n1 n2 Z M (pc + 1) lv (.int (x / y) :: st)) : V K ad n1 n2 Z M pc lv (.int y :: .int x :: st) := fun H locs ls hz hP hD hS hl => lv_idiv f.1 f.2.1 hd hne (k H locs ls hz hP hD hS hl)
theorem V_irem (f : Fx K cc own nL rm) {x y : Int32} (hd : decode cc pc = .ok (.irem, 1)) (hne : ¬ y = 0) (k : V K ad n1 n2 Z M (pc + 1) lv (.int (x - x / y * y) :: st)) : V K ad n1 n2 Z M pc lv (.int y :: .int x :: st) := fun H locs ls hz hP hD hS hl => lv_irem f.1 f.2.1 hd hne (k H locs ls hz hP hD hS hl)
theorem V_i2b (f : Fx K cc own nL rm) {x : Int32} (hd : decode cc pc = .ok (.i2b, 1)) (k : V K ad n1 n2 Z M (pc + 1) lv (.int (x.toInt8.toInt32) :: st)) : V K ad n1 n2 Z M pc lv (.int x :: st) := fun H locs ls hz hP hD hS hl => lv_i2b f.1 f.2.1 hd rfl (k H locs ls hz hP hD hS hl)
theorem V_i2l (f : Fx K cc own nL rm) {x : Int32} (hd : decode cc pc = .ok (.i2l, 1)) (k : V K ad n1 n2 Z M (pc + 1) lv (.long (x.toInt64) :: st)) : V K ad n1 n2 Z M pc lv (.int x :: st) := fun H locs ls hz hP hD hS hl => lv_i2l f.1 f.2.1 hd rfl (k H locs ls hz hP hD hS hl)
theorem V_lor (f : Fx K cc own nL rm) {x y : Int64} (hd : decode cc pc = .ok (.lor, 1)) (k : V K ad n1 n2 Z M (pc + 1) lv (.long (x ||| y) :: st)) : V K ad n1 n2 Z M pc lv (.long y :: .long x :: st) := fun H locs ls hz hP hD hS hl => lv_lor f.1 f.2.1 hd (k H locs ls hz hP hD hS hl)
theorem V_lshl (f : Fx K cc own nL rm) {x : Int64} {y : Int32} (hd : decode cc pc = .ok (.lshl, 1)) (k : V K ad n1 n2 Z M (pc + 1) lv (.long (x <<< (y.toInt64 &&& 63)) :: st)) : V K ad n1 n2 Z M pc lv (.int y :: .long x :: st) := fun H locs ls hz hP hD hS hl => lv_lshl f.1 f.2.1 hd rfl (k H locs ls hz hP hD hS hl)
theorem V_lcmp (f : Fx K cc own nL rm) {x y : Int64} (hd : decode cc pc = .ok (.lcmp, 1)) (k : V K ad n1 n2 Z M (pc + 1) lv (.int (lg_cmp x y) :: st)) : V K ad n1 n2 Z M pc lv (.long y :: .long x :: st) := fun H locs ls hz hP hD hS hl => W.lcmp f.1 f.2.1 hd (k H locs ls hz hP hD hS hl)
theorem V_dup (f : Fx K cc own nL rm) {v : Value} (hd : decode cc pc = .ok (.dup, 1)) (hv : v.category = 1) (k : V K ad n1 n2 Z M (pc + 1) lv (v :: v :: st)) : V K ad n1 n2 Z M pc lv (v :: st) := fun H locs ls hz hP hD hS hl => lv_dup f.1 f.2.1 hd hv (k H locs ls hz hP hD hS hl)
theorem V_dup2 (f : Fx K cc own nL rm) {va vb : Value} (hd : decode cc pc = .ok (.dup2, 1)) (hva : va.category = 1) (hvb : vb.category = 1) (k : V K ad n1 n2 Z M (pc + 1) lv (va :: vb :: va :: vb :: st)) : V K ad n1 n2 Z M pc lv (va :: vb :: st) := fun H locs ls hz hP hD hS hl => lv_dup2_11 f.1 f.2.1 hd hva hvb (k H locs ls hz hP hD hS hl)
theorem V_goto (f : Fx K cc own nL rm) {off : Int} {tgt : Nat} (hd : decode cc pc = .ok (.goto off, 3)) (ht : (pc : Int) + off = (tgt : Int)) (k : V K ad n1 n2 Z M tgt lv st) : V K ad n1 n2 Z M pc lv st := fun H locs ls hz hP hD hS hl => lv_goto f.1 f.2.1 hd ht (k H locs ls hz hP hD hS hl)
theorem V_if_eq (f : Fx K cc own nL rm) {x : Int32} {off : Int} {tgt : Nat} (hd : decode cc pc = .ok (.ifCond .eq off, 3)) (ht : (pc : Int) + off = (tgt : Int)) (kt : x = 0 → V K ad n1 n2 Z M tgt lv st) (kf : ¬ x = 0 → V K ad n1 n2 Z M (pc + 3) lv st) : V K ad n1 n2 Z M pc lv (.int x :: st) := fun H locs ls hz hP hD hS hl => lv_if_eq f.1 f.2.1 hd ht (fun q => kt q H locs ls hz hP hD hS hl) (fun q => kf q H locs ls hz hP hD hS hl)
theorem V_icmp_eq (f : Fx K cc own nL rm) {x y : Int32} {off : Int} {tgt : Nat} (hd : decode cc pc = .ok (.if_icmp .eq off, 3)) (ht : (pc : Int) + off = (tgt : Int)) (kt : x = y → V K ad n1 n2 Z M tgt lv st) (kf : ¬ x = y → V K ad n1 n2 Z M (pc + 3) lv st) : V K ad n1 n2 Z M pc lv (.int y :: .int x :: st) := fun H locs ls hz hP hD hS hl => lv_icmp_eq f.1 f.2.1 hd ht (fun q => kt q H locs ls hz hP hD hS hl) (fun q => kf q H locs ls hz hP hD hS hl)
theorem V_if_ne (f : Fx K cc own nL rm) {x : Int32} {off : Int} {tgt : Nat} (hd : decode cc pc = .ok (.ifCond .ne off, 3)) (ht : (pc : Int) + off = (tgt : Int)) (kt : ¬ x = 0 → V K ad n1 n2 Z M tgt lv st) (kf : x = 0 → V K ad n1 n2 Z M (pc + 3) lv st) : V K ad n1 n2 Z M pc lv (.int x :: st) := fun H locs ls hz hP hD hS hl => lv_if_ne f.1 f.2.1 hd ht (fun q => kt q H locs ls hz hP hD hS hl) (fun q => kf q H locs ls hz hP hD hS hl)
theorem V_icmp_ne (f : Fx K cc own nL rm) {x y : Int32} {off : Int} {tgt : Nat} (hd : decode cc pc = .ok (.if_icmp .ne off, 3)) (ht : (pc : Int) + off = (tgt : Int)) (kt : ¬ x = y → V K ad n1 n2 Z M tgt lv st) (kf : x = y → V K ad n1 n2 Z M (pc + 3) lv st) : V K ad n1 n2 Z M pc lv (.int y :: .int x :: st) := fun H locs ls hz hP hD hS hl => lv_icmp_ne f.1 f.2.1 hd ht (fun q => kt q H locs ls hz hP hD hS hl) (fun q => kf q H locs ls hz hP hD hS hl)
theorem V_if_lt (f : Fx K cc own nL rm) {x : Int32} {off : Int} {tgt : Nat} (hd : decode cc pc = .ok (.ifCond .lt off, 3)) (ht : (pc : Int) + off = (tgt : Int)) (kt : x < 0 → V K ad n1 n2 Z M tgt lv st) (kf : ¬ x < 0 → V K ad n1 n2 Z M (pc + 3) lv st) : V K ad n1 n2 Z M pc lv (.int x :: st) := fun H locs ls hz hP hD hS hl => lv_if_lt f.1 f.2.1 hd ht (fun q => kt q H locs ls hz hP hD hS hl) (fun q => kf q H locs ls hz hP hD hS hl)
theorem V_icmp_lt (f : Fx K cc own nL rm) {x y : Int32} {off : Int} {tgt : Nat} (hd : decode cc pc = .ok (.if_icmp .lt off, 3)) (ht : (pc : Int) + off = (tgt : Int)) (kt : x < y → V K ad n1 n2 Z M tgt lv st) (kf : ¬ x < y → V K ad n1 n2 Z M (pc + 3) lv st) : V K ad n1 n2 Z M pc lv (.int y :: .int x :: st) := fun H locs ls hz hP hD hS hl => lv_icmp_lt f.1 f.2.1 hd ht (fun q => kt q H locs ls hz hP hD hS hl) (fun q => kf q H locs ls hz hP hD hS hl)
theorem V_if_ge (f : Fx K cc own nL rm) {x : Int32} {off : Int} {tgt : Nat} (hd : decode cc pc = .ok (.ifCond .ge off, 3)) (ht : (pc : Int) + off = (tgt : Int)) (kt : 0 ≤ x → V K ad n1 n2 Z M tgt lv st) (kf : ¬ 0 ≤ x → V K ad n1 n2 Z M (pc + 3) lv st) : V K ad n1 n2 Z M pc lv (.int x :: st) := fun H locs ls hz hP hD hS hl => lv_if_ge f.1 f.2.1 hd ht (fun q => kt q H locs ls hz hP hD hS hl) (fun q => kf q H locs ls hz hP hD hS hl)
theorem V_icmp_ge (f : Fx K cc own nL rm) {x y : Int32} {off : Int} {tgt : Nat} (hd : decode cc pc = .ok (.if_icmp .ge off, 3)) (ht : (pc : Int) + off = (tgt : Int)) (kt : y ≤ x → V K ad n1 n2 Z M tgt lv st) (kf : ¬ y ≤ x → V K ad n1 n2 Z M (pc + 3) lv st) : V K ad n1 n2 Z M pc lv (.int y :: .int x :: st) := fun H locs ls hz hP hD hS hl => lv_icmp_ge f.1 f.2.1 hd ht (fun q => kt q H locs ls hz hP hD hS hl) (fun q => kf q H locs ls hz hP hD hS hl)
theorem V_if_gt (f : Fx K cc own nL rm) {x : Int32} {off : Int} {tgt : Nat} (hd : decode cc pc = .ok (.ifCond .gt off, 3)) (ht : (pc : Int) + off = (tgt : Int)) (kt : 0 < x → V K ad n1 n2 Z M tgt lv st) (kf : ¬ 0 < x → V K ad n1 n2 Z M (pc + 3) lv st) : V K ad n1 n2 Z M pc lv (.int x :: st) := fun H locs ls hz hP hD hS hl => lv_if_gt f.1 f.2.1 hd ht (fun q => kt q H locs ls hz hP hD hS hl) (fun q => kf q H locs ls hz hP hD hS hl)
theorem V_icmp_gt (f : Fx K cc own nL rm) {x y : Int32} {off : Int} {tgt : Nat} (hd : decode cc pc = .ok (.if_icmp .gt off, 3)) (ht : (pc : Int) + off = (tgt : Int)) (kt : y < x → V K ad n1 n2 Z M tgt lv st) (kf : ¬ y < x → V K ad n1 n2 Z M (pc + 3) lv st) : V K ad n1 n2 Z M pc lv (.int y :: .int x :: st) := fun H locs ls hz hP hD hS hl => lv_icmp_gt f.1 f.2.1 hd ht (fun q => kt q H locs ls hz hP hD hS hl) (fun q => kf q H locs ls hz hP hD hS hl)
theorem V_if_le (f : Fx K cc own nL rm) {x : Int32} {off : Int} {tgt : Nat} (hd : decode cc pc = .ok (.ifCond .le off, 3)) (ht : (pc : Int) + off = (tgt : Int)) (kt : x ≤ 0 → V K ad n1 n2 Z M tgt lv st) (kf : ¬ x ≤ 0 → V K ad n1 n2 Z M (pc + 3) lv st) : V K ad n1 n2 Z M pc lv (.int x :: st) := fun H locs ls hz hP hD hS hl => lv_if_le f.1 f.2.1 hd ht (fun q => kt q H locs ls hz hP hD hS hl) (fun q => kf q H locs ls hz hP hD hS hl)
theorem V_icmp_le (f : Fx K cc own nL rm) {x y : Int32} {off : Int} {tgt : Nat} (hd : decode cc pc = .ok (.if_icmp .le off, 3)) (ht : (pc : Int) + off = (tgt : Int)) (kt : x ≤ y → V K ad n1 n2 Z M tgt lv st) (kf : ¬ x ≤ y → V K ad n1 n2 Z M (pc + 3) lv st) : V K ad n1 n2 Z M pc lv (.int y :: .int x :: st) := fun H locs ls hz hP hD hS hl => lv_icmp_le f.1 f.2.1 hd ht (fun q => kt q H locs ls hz hP hD hS hl) (fun q => kf q H locs ls hz hP hD hS hl)
theorem V_tableIn (f : Fx K cc own nL rm) {dflt lo hi : Int} {offs : Array Int} {len : Nat} {x : Int32} {off : Int} {tgt : Nat} (hd : decode cc pc = .ok (.tableswitch dflt lo hi offs, len)) (h1 : ¬ x.toInt < lo) (h2 : ¬ hi < x.toInt) (ho : offs[(x.toInt - lo).toNat]? = some off) (ht : (pc : Int) + off = (tgt : Int)) (k : V K ad n1 n2 Z M tgt lv st) : V K ad n1 n2 Z M pc lv (.int x :: st) := fun H locs ls hz hP hD hS hl => lv_tableIn f.1 f.2.1 hd h1 h2 ho ht (k H locs ls hz hP hD hS hl)
theorem V_tableOut (f : Fx K cc own nL rm) {dflt lo hi : Int} {offs : Array Int} {len : Nat} {x : Int32} {tgt : Nat} (hd : decode cc pc = .ok (.tableswitch dflt lo hi offs, len)) (h : x.toInt < lo ∨ hi < x.toInt) (ht : (pc : Int) + dflt = (tgt : Int)) (k : V K ad n1 n2 Z M tgt lv st) : V K ad n1 n2 Z M pc lv (.int x :: st) := fun H locs ls hz hP hD hS hl => lv_tableOut f.1 f.2.1 hd h ht (k H locs ls hz hP hD hS hl)
theorem V_lookup (f : Fx K cc own nL rm) {dflt : Int} {ps : Array (Int × Int)} {len : Nat} {x : Int32} {off : Int} {tgt : Nat} (hd : decode cc pc = .ok (.lookupswitch dflt ps, len)) (hp : (ps.toList.zip (ps.toList.drop 1)).all (fun (a, next) => a.1 < next.1) = true) (ho : Op.lookupswitch.offset ps.toList dflt x.toInt = off) (ht : (pc : Int) + off = (tgt : Int)) (k : V K ad n1 n2 Z M tgt lv st) : V K ad n1 n2 Z M pc lv (.int x :: st) := fun H locs ls hz hP hD hS hl => lv_lookup f.1 f.2.1 hd hp ho ht (k H locs ls hz hP hD hS hl)
theorem V_ldc2 (f : Fx K cc own nL rm) {index : Nat} {v : Int64} (hd : decode cc pc = .ok (.ldc2_w index, 3)) (hc : Jvm.Cond.constantLong own index v ∈ tbG) (k : V K ad n1 n2 Z M (pc + 3) lv (.long v :: st)) : V K ad n1 n2 Z M pc lv st := fun H locs ls hz hP hD hS hl => lv_ldc2 f.1 f.2.1 f.2.2.2.2.1 (f.2.2.2.2.2.1 _ hc) hd (k H locs ls hz hP hD hS hl)
theorem V_objInit (f : Fx K cc own nL rm) {idx : Nat} {a : Nat} (hd : decode cc pc = .ok (.invokespecial idx, 3)) (h1 : Cond.methodLink own idx objectInit ∈ tbG) (h2 : Cond.instanceMethod objectInit ∈ tbG) (h3 : Cond.code objectInit ⟨#[0xb1]⟩ 1 none ∈ tbG) (hf : 1 ≤ rm.frames) (hl : (st.map fun v => v.category).sum + 12 ≤ rm.locals) (k : V K ad n1 n2 Z M (pc + 3) lv st) : V K ad n1 n2 Z M pc lv (.ref a :: st) := fun H locs ls hz hP hD hS h9 => by
  refine W.objInit f.1 f.2.1 f.2.2.2.2.1 (f.2.2.2.2.2.1 _ h1) (f.2.2.2.2.2.1 _ h2) (f.2.2.2.2.2.1 _ h3) rfl (by rw [f.2.2.1]; exact h9.1) rfl hd (by rw [f.2.2.2.2.2.2.2.2.1]; exact hf) (by rw [f.2.2.2.2.2.2.2.2.1]; show 2 * 0 + _ + 12 ≤ _; omega) ?_
  exact k H locs ls hz hP hD hS h9
/-- the field k of the class of number ci, as the instruction names it -/
def LF (own : String) (idx ci k : Nat) (C : String) (T : u_T) (N : Nat) : Prop := ci < 10 ∧ vwCl[ci]? = some (C, T, N) ∧ k < N ∧ Cond.fieldLink own idx (T k).1 (T k).2.1 (T k).2.2.1 ∈ tbG ∧ ∀ w ∈ u_ws C T N, w ∈ tbG
def LPf (k : Nat) (T : u_T) (N : Nat) (ty : FieldType) : Prop := (∃ ty0 : Nat → FieldType, ∀ k, k < N → parseFieldDescriptor (T k).2.2.1 = some (ty0 k)) ∧ (∀ a, a < N → ∀ b, b < N → a ≠ b → (T a).2.1 ≠ (T b).2.1) ∧ parseFieldDescriptor (T k).2.2.1 = some ty
theorem cE_obj {cy : Nat → ClassId} {ad : Nat → Nat} {ci n : Nat} {rs : List (Option Nat)} {m : Nat → Int32} (h : ci < 10) : cE cy ad (ci, n, rs) m = .inr (ci, kV ad rs m (kFl ci) 0) := by simp [cE, h]
theorem V_getI (f : Fx K cc own nL rm) {idx ci k : Nat} {C : String} {T : u_T} {N : Nat} (hd : decode cc pc = .ok (.getfield idx, 3)) (lf : LF own idx ci k C T N) (hfl : (kFl ci)[k]? = some false) {i n : Nat} {rs : List (Option Nat)} (hi : Z[i]? = some (ci, n, rs)) (kk : V K ad n1 n2 Z M (pc + 3) lv (.int (M i k) :: st)) : V K ad n1 n2 Z M pc lv (.ref (ad i) :: st) := fun H locs ls hz hP hD hS hl => by
  obtain ⟨hci, hc, hk, hlk, hin⟩ := lf
  have he := wl_get (cy := ky K) (ad := ad) (M := M) (X := kX K) hi
  rw [cE_obj hci] at he
  have hv := kV_get ad rs (M i) (kFl ci) 0 k false hfl
  simp only [Nat.zero_add] at hv
  exact va_get (C := C) (T := T) (N := N) f.1 f.2.1 f.2.2.2.2.2.1 hin f.2.2.2.2.1 f.2.2.2.2.2.2.1.1 hP _ he hc k hk (f.2.2.2.2.2.1 _ hlk) (fun _ h9 => h9) hv hd (kk H locs ls hz hP hD hS hl)
theorem V_getR (f : Fx K cc own nL rm) {idx ci k : Nat} {C : String} {T : u_T} {N : Nat} (hd : decode cc pc = .ok (.getfield idx, 3)) (lf : LF own idx ci k C T N) (hfl : (kFl ci)[k]? = some true) {i n j : Nat} {rs : List (Option Nat)} (hi : Z[i]? = some (ci, n, rs)) (hj : rs.getD k none = some j) (kk : V K ad n1 n2 Z M (pc + 3) lv (.ref (ad j) :: st)) : V K ad n1 n2 Z M pc lv (.ref (ad i) :: st) := fun H locs ls hz hP hD hS hl => by
  obtain ⟨hci, hc, hk, hlk, hin⟩ := lf
  have he := wl_get (cy := ky K) (ad := ad) (M := M) (X := kX K) hi
  rw [cE_obj hci] at he
  have hv := kV_get ad rs (M i) (kFl ci) 0 k true hfl
  simp only [Nat.zero_add, if_true, hj, Option.map_some, va_rf] at hv
  exact va_get (C := C) (T := T) (N := N) f.1 f.2.1 f.2.2.2.2.2.1 hin f.2.2.2.2.1 f.2.2.2.2.2.2.1.1 hP _ he hc k hk (f.2.2.2.2.2.1 _ hlk) (fun _ h9 => h9) hv hd (kk H locs ls hz hP hD hS hl)
theorem V_putI (f : Fx K cc own nL rm) {idx ci k : Nat} {C : String} {T : u_T} {N : Nat} {ty : FieldType} (hd : decode cc pc = .ok (.putfield idx, 3)) (lf : LF own idx ci k C T N) (lp : LPf k T N ty) (hfin : (T k).2.2.2 = false) (hfl : (kFl ci)[k]? = some false) {v : Int32} (hn : narrow ty (.int v) = .int v) (hfit : fits ty (.int v) = true) {i n : Nat} {rs : List (Option Nat)} (hi : Z[i]? = some (ci, n, rs)) (kk : V K ad n1 n2 Z (up2 M i k v) (pc + 3) lv st) : V K ad n1 n2 Z M pc lv (.int v :: .ref (ad i) :: st) := fun H locs ls hz hP hD hS hl => by
  obtain ⟨hci, hc, hk, hlk, hin⟩ := lf
  obtain ⟨⟨ty0, hty⟩, hnm, hpd⟩ := lp
  have he := wl_get (cy := ky K) (ad := ad) (M := M) (X := kX K) hi
  rw [cE_obj hci] at he
  refine va_put (C := C) (T := T) (N := N) f.1 f.2.1 f.2.2.2.2.2.1 hin ty0 hty hnm f.2.2.2.2.1 f.2.2.2.2.2.2.1.1 hP hD hS _ he hc k hk (f.2.2.2.2.2.1 _ hlk) (fun _ h9 => h9) hfin hpd hn hfit (by rw [kV_len]; exact (List.getElem?_eq_some_iff.mp hfl).1) hd (fun H1 locs1 hP1 hD1 hS1 => ?_)
  rw [kV_setI (kFl ci) (M i) 0 k hfl, Nat.zero_add, ← cE_obj (cy := ky K) (n := n) hci, wl_setM hi] at hP1 hD1
  exact kk H1 locs1 ls hz hP1 hD1 hS1 hl
theorem V_putF (f : Fx K cc own nL rm) {idx ci k : Nat} {C : String} {T : u_T} {N : Nat} {ty : FieldType} (hd : decode cc pc = .ok (.putfield idx, 3)) (lf : LF own idx ci k C T N) (lp : LPf k T N ty) (hfin : (T k).2.2.2 = true) (hin2 : (kmt K).name = "<init>") (hdecl : (T k).1 = own) (hfl : (kFl ci)[k]? = some true) {r : Nat} (hn : narrow ty (.ref (ad r)) = .ref (ad r)) (hfit : fits ty (.ref (ad r)) = true) (hr : r < Z.length) {i n : Nat} {rs : List (Option Nat)} (hi : Z[i]? = some (ci, n, rs)) (hk2 : k < rs.length) (kk : V K ad n1 n2 (Z.set i (ci, n, rs.set k (some r))) M (pc + 3) lv st) : V K ad n1 n2 Z M pc lv (.ref (ad r) :: .ref (ad i) :: st) := fun H locs ls hz hP hD hS hl => by
  obtain ⟨hci, hc, hk, hlk, hin⟩ := lf
  obtain ⟨⟨ty0, hty⟩, hnm, hpd⟩ := lp
  have he := wl_get (cy := ky K) (ad := ad) (M := M) (X := kX K) hi
  rw [cE_obj hci] at he
  refine va_putF (C := C) (T := T) (N := N) f.1 f.2.1 f.2.2.2.2.2.1 hin ty0 hty hnm f.2.2.2.2.1 f.2.2.2.2.2.2.1.1 hP hD hS _ he hc k hk (f.2.2.2.2.2.1 _ hlk) (fun _ h9 => h9) hfin hin2 hdecl hpd hn hfit (by rw [kV_len]; exact (List.getElem?_eq_some_iff.mp hfl).1) hd (fun H1 locs1 hP1 hD1 hS1 => ?_)
  rw [kV_setR (kFl ci) rs 0 k hfl (by omega), Nat.zero_add, ← cE_obj (cy := ky K) (n := n) hci, wl_setZ hi] at hP1 hD1
  exact kk H1 locs1 ls (zok_setR hz hi hr) hP1 hD1 hS1 hl
theorem cE_int {cy : Nat → ClassId} {ad : Nat → Nat} {ci n : Nat} {rs : List (Option Nat)} {m : Nat → Int32} (h : ¬ ci < 10) (h2 : ci < 13) : cE cy ad (ci, n, rs) m = .inl (cy ci, n, .inl m) := by simp [cE, h, h2]
theorem cE_ref {cy : Nat → ClassId} {ad : Nat → Nat} {ci n : Nat} {rs : List (Option Nat)} {m : Nat → Int32} (h2 : ¬ ci < 13) : cE cy ad (ci, n, rs) m = .inl (cy ci, n, .inr (.inr (.inr (.inr (fun k => (rs.getD k none).map ad))))) := by simp [cE, h2, show ¬ ci < 10 by omega]
theorem V_iald (f : Fx K cc own nL rm) (hd : decode cc pc = .ok (.iaload, 1)) {a n : Nat} {rs : List (Option Nat)} (hi : Z[a]? = some (11, n, rs)) {i : Int32} (hin : vp_in i n) (kk : V K ad n1 n2 Z M (pc + 1) lv (.int (M a i.toNatClampNeg) :: st)) : V K ad n1 n2 Z M pc lv (.int i :: .ref (ad a) :: st) := fun H locs ls hz hP hD hS hl => by
  have he := wl_get (cy := ky K) (ad := ad) (M := M) (X := kX K) hi
  rw [cE_int (by decide) (by decide)] at he
  exact va_iald f.1 f.2.1 f.2.2.2.2.2.2.1.1 hP _ 1 he rfl hin hd (kk H locs ls hz hP hD hS hl)
theorem V_iast (f : Fx K cc own nL rm) (hd : decode cc pc = .ok (.iastore, 1)) {a n : Nat} {rs : List (Option Nat)} (hi : Z[a]? = some (11, n, rs)) {i x : Int32} (hin : vp_in i n) (kk : V K ad n1 n2 Z (up2 M a i.toNatClampNeg x) (pc + 1) lv st) : V K ad n1 n2 Z M pc lv (.int x :: .int i :: .ref (ad a) :: st) := fun H locs ls hz hP hD hS hl => by
  have he := wl_get (cy := ky K) (ad := ad) (M := M) (X := kX K) hi
  rw [cE_int (by decide) (by decide)] at he
  refine va_iast f.1 f.2.1 f.2.2.2.2.2.2.1.1 hP hD hS _ 1 he rfl hin hd (fun H1 locs1 hP1 hD1 hS1 => ?_)
  have eq : upd (M a) i.toNatClampNeg x = va_up (M a) i.toNatClampNeg x := rfl
  rw [eq, ← cE_int (cy := ky K) (ad := ad) (rs := rs) (by decide) (by decide), wl_setM hi] at hP1 hD1
  exact kk H1 locs1 ls hz hP1 hD1 hS1 hl
theorem V_bald (f : Fx K cc own nL rm) (hd : decode cc pc = .ok (.baload, 1)) {a n : Nat} {rs : List (Option Nat)} (hi : Z[a]? = some (10, n, rs)) {i : Int32} (hin : vp_in i n) (kk : V K ad n1 n2 Z M (pc + 1) lv (.int (M a i.toNatClampNeg) :: st)) : V K ad n1 n2 Z M pc lv (.int i :: .ref (ad a) :: st) := fun H locs ls hz hP hD hS hl => by
  have he := wl_get (cy := ky K) (ad := ad) (M := M) (X := kX K) hi
  rw [cE_int (by decide) (by decide)] at he
  exact va_bald f.1 f.2.1 f.2.2.2.2.2.2.1.1 hP _ 0 he rfl hin hd (kk H locs ls hz hP hD hS hl)
theorem V_bast (f : Fx K cc own nL rm) (hd : decode cc pc = .ok (.bastore, 1)) {a n : Nat} {rs : List (Option Nat)} (hi : Z[a]? = some (10, n, rs)) {i x : Int32} (hin : vp_in i n) (kk : V K ad n1 n2 Z (up2 M a i.toNatClampNeg (vp_nar .byte x)) (pc + 1) lv st) : V K ad n1 n2 Z M pc lv (.int x :: .int i :: .ref (ad a) :: st) := fun H locs ls hz hP hD hS hl => by
  have he := wl_get (cy := ky K) (ad := ad) (M := M) (X := kX K) hi
  rw [cE_int (by decide) (by decide)] at he
  refine va_bast f.1 f.2.1 f.2.2.2.2.2.2.1.1 hP hD hS _ 0 he rfl hin hd (fun H1 locs1 hP1 hD1 hS1 => ?_)
  have eq : upd (M a) i.toNatClampNeg (vp_nar .byte x) = va_up (M a) i.toNatClampNeg (vp_nar .byte x) := rfl
  rw [eq, ← cE_int (cy := ky K) (ad := ad) (rs := rs) (by decide) (by decide), wl_setM hi] at hP1 hD1
  exact kk H1 locs1 ls hz hP1 hD1 hS1 hl
theorem V_zald (f : Fx K cc own nL rm) (hd : decode cc pc = .ok (.baload, 1)) {a n : Nat} {rs : List (Option Nat)} (hi : Z[a]? = some (12, n, rs)) {i : Int32} (hin : vp_in i n) (kk : V K ad n1 n2 Z M (pc + 1) lv (.int (M a i.toNatClampNeg) :: st)) : V K ad n1 n2 Z M pc lv (.int i :: .ref (ad a) :: st) := fun H locs ls hz hP hD hS hl => by
  have he := wl_get (cy := ky K) (ad := ad) (M := M) (X := kX K) hi
  rw [cE_int (by decide) (by decide)] at he
  exact va_zald f.1 f.2.1 f.2.2.2.2.2.2.1.1 hP _ 2 he rfl hin hd (kk H locs ls hz hP hD hS hl)
theorem V_zast (f : Fx K cc own nL rm) (hd : decode cc pc = .ok (.bastore, 1)) {a n : Nat} {rs : List (Option Nat)} (hi : Z[a]? = some (12, n, rs)) {i x : Int32} (hin : vp_in i n) (kk : V K ad n1 n2 Z (up2 M a i.toNatClampNeg (vp_nar .boolean x)) (pc + 1) lv st) : V K ad n1 n2 Z M pc lv (.int x :: .int i :: .ref (ad a) :: st) := fun H locs ls hz hP hD hS hl => by
  have he := wl_get (cy := ky K) (ad := ad) (M := M) (X := kX K) hi
  rw [cE_int (by decide) (by decide)] at he
  refine va_zast f.1 f.2.1 f.2.2.2.2.2.2.1.1 hP hD hS _ 2 he rfl hin hd (fun H1 locs1 hP1 hD1 hS1 => ?_)
  have eq : upd (M a) i.toNatClampNeg (vp_nar .boolean x) = va_up (M a) i.toNatClampNeg (vp_nar .boolean x) := rfl
  rw [eq, ← cE_int (cy := ky K) (ad := ad) (rs := rs) (by decide) (by decide), wl_setM hi] at hP1 hD1
  exact kk H1 locs1 ls hz hP1 hD1 hS1 hl
theorem V_aald (f : Fx K cc own nL rm) (hd : decode cc pc = .ok (.aaload, 1)) {a n ci t0 j : Nat} {C : String} {rs : List (Option Nat)} (hi : Z[a]? = some (ci, n, rs)) (hci : ¬ ci < 13) (ht : (tyL (ky K))[t0]? = some (ky K ci, .object C)) {i : Int32} (hin : vp_in i n) (hj : rs.getD i.toNatClampNeg none = some j) (kk : V K ad n1 n2 Z M (pc + 1) lv (.ref (ad j) :: st)) : V K ad n1 n2 Z M pc lv (.int i :: .ref (ad a) :: st) := fun H locs ls hz hP hD hS hl => by
  have he := wl_get (cy := ky K) (ad := ad) (M := M) (X := kX K) hi
  rw [cE_ref hci] at he
  refine va_aldq f.1 f.2.1 f.2.2.2.2.2.2.1.1 hP _ t0 he ht hin hd ?_
  have e9 : va_rf ((rs.getD i.toNatClampNeg none).map ad) = .ref (ad j) := by rw [hj]; rfl
  show W _ _ _ _ _ _ _ _ _ _ _ _ _ _ _ (F0 _ _ _ (va_rf ((rs.getD i.toNatClampNeg none).map ad) :: st))
  rw [e9]
  exact kk H locs ls hz hP hD hS hl
theorem V_aast (f : Fx K cc own nL rm) (hd : decode cc pc = .ok (.aastore, 1)) {a n ci t0 cj nj r : Nat} {q : vw_C} {rs rj : List (Option Nat)} (hi : Z[a]? = some (ci, n, rs)) (hci : ¬ ci < 13) (ht : (tyL (ky K))[t0]? = some (ky K ci, .object q.1)) (hr : Z[r]? = some (cj, nj, rj)) (hcj : cj < 10) (hc : vwCl[cj]? = some q) {i : Int32} (hin : vp_in i n) (hlen : i.toNatClampNeg < rs.length) (kk : V K ad n1 n2 (Z.set a (ci, n, rs.set i.toNatClampNeg (some r))) M (pc + 1) lv st) : V K ad n1 n2 Z M pc lv (.ref (ad r) :: .int i :: .ref (ad a) :: st) := fun H locs ls hz hP hD hS hl => by
  have he := wl_get (cy := ky K) (ad := ad) (M := M) (X := kX K) hi
  have hv := wl_get (cy := ky K) (ad := ad) (M := M) (X := kX K) hr
  rw [cE_ref hci] at he
  rw [cE_obj hcj] at hv
  refine va_astq f.1 f.2.1 f.2.2.2.2.2.2.1.1 hP hD hS _ t0 _ cj he ht hv hc hin hd (fun H1 locs1 hP1 hD1 hS1 => ?_)
  have e9 : va_up (fun k => (rs.getD k none).map ad) i.toNatClampNeg (some (ad r)) = fun k => ((rs.set i.toNatClampNeg (some r)).getD k none).map ad := by
    funext k
    by_cases hk : k = i.toNatClampNeg
    · subst hk
      simp only [va_up, if_true, List.getD_eq_getElem?_getD]
      rw [List.getElem?_set_self hlen]
      rfl
    · simp only [va_up, if_neg hk, List.getD_eq_getElem?_getD]
      rw [List.getElem?_set_ne (fun h => hk h.symm)]
  rw [e9, ← cE_ref (cy := ky K) (m := M a) hci, wl_setZ hi] at hP1 hD1
  exact kk H1 locs1 ls (zok_setR hz hi (List.getElem?_eq_some_iff.mp hr).1) hP1 hD1 hS1 hl
theorem V_alen (f : Fx K cc own nL rm) (hd : decode cc pc = .ok (.arraylength, 1)) {a n ci t0 : Nat} {ty : FieldType} {rs : List (Option Nat)} (hi : Z[a]? = some (ci, n, rs)) (hci : ¬ ci < 10) (ht : (tyL (ky K))[t0]? = some (ky K ci, ty)) (kk : V K ad n1 n2 Z M (pc + 1) lv (.int (Int32.ofNat n) :: st)) : V K ad n1 n2 Z M pc lv (.ref (ad a) :: st) := fun H locs ls hz hP hD hS hl => by
  have he := wl_get (cy := ky K) (ad := ad) (M := M) (X := kX K) hi
  by_cases h13 : ci < 13
  · rw [cE_int hci h13] at he
    exact va_alen f.1 f.2.1 f.2.2.2.2.2.2.1.1 hP _ t0 he ht rfl hd (kk H locs ls hz hP hD hS hl)
  · rw [cE_ref h13] at he
    exact va_alen f.1 f.2.1 f.2.2.2.2.2.2.1.1 hP _ t0 he ht rfl hd (kk H locs ls hz hP hD hS hl)
theorem V_mmax (f : Fx K cc own nL rm) {idx : Nat} {x y : Int32} (hd : decode cc pc = .ok (.invokestatic idx, 3)) (h1 : Cond.methodLink own idx Lib.Math.max.name ∈ tbG) (h2 : Cond.static Lib.Math.max.name ∈ tbG) (h3 : Cond.initialized "java/lang/Math" ∈ tbG) (h4 : Cond.code Lib.Math.max.name Lib.Math.max.code 2 (some .int) ∈ tbG) (hf : 1 ≤ rm.frames) (hl : (st.map fun v => v.category).sum + 13 ≤ rm.locals) (hc : n1 ≤ rm.cells) (hs : n2 ≤ rm.slots) (k : V K ad n1 n2 Z M (pc + 3) lv (.int (if x < y then y else x) :: st)) : V K ad n1 n2 Z M pc lv (.int y :: .int x :: st) := fun H locs ls hz hP hD hS h9 => va_mmax f.1 f.2.1 (by rw [f.2.2.1]; exact h9.1.symm) f.2.2.2.2.1 (f.2.2.2.2.2.1 _ h1) (f.2.2.2.2.2.1 _ h2) (f.2.2.2.2.2.1 _ h3) (f.2.2.2.2.2.1 _ h4) (by rw [f.2.2.2.2.2.2.2.2.1]; exact hf) (by rw [f.2.2.2.2.2.2.2.2.1]; exact hl) (by rw [f.2.2.2.2.2.2.2.2.1]; exact hc) (by rw [f.2.2.2.2.2.2.2.2.1]; exact hs) hd (k H locs ls hz hP hD hS h9)
theorem V_mmin (f : Fx K cc own nL rm) {idx : Nat} {x y : Int32} (hd : decode cc pc = .ok (.invokestatic idx, 3)) (h1 : Cond.methodLink own idx Lib.Math.min.name ∈ tbG) (h2 : Cond.static Lib.Math.min.name ∈ tbG) (h3 : Cond.initialized "java/lang/Math" ∈ tbG) (h4 : Cond.code Lib.Math.min.name Lib.Math.min.code 2 (some .int) ∈ tbG) (hf : 1 ≤ rm.frames) (hl : (st.map fun v => v.category).sum + 13 ≤ rm.locals) (hc : n1 ≤ rm.cells) (hs : n2 ≤ rm.slots) (k : V K ad n1 n2 Z M (pc + 3) lv (.int (if y < x then y else x) :: st)) : V K ad n1 n2 Z M pc lv (.int y :: .int x :: st) := fun H locs ls hz hP hD hS h9 => va_mmin f.1 f.2.1 (by rw [f.2.2.1]; exact h9.1.symm) f.2.2.2.2.1 (f.2.2.2.2.2.1 _ h1) (f.2.2.2.2.2.1 _ h2) (f.2.2.2.2.2.1 _ h3) (f.2.2.2.2.2.1 _ h4) (by rw [f.2.2.2.2.2.2.2.2.1]; exact hf) (by rw [f.2.2.2.2.2.2.2.2.1]; exact hl) (by rw [f.2.2.2.2.2.2.2.2.1]; exact hc) (by rw [f.2.2.2.2.2.2.2.2.1]; exact hs) hd (k H locs ls hz hP hD hS h9)
theorem V_mabs (f : Fx K cc own nL rm) {idx : Nat} {x : Int32} (hd : decode cc pc = .ok (.invokestatic idx, 3)) (h1 : Cond.methodLink own idx Lib.Math.abs.name ∈ tbG) (h2 : Cond.static Lib.Math.abs.name ∈ tbG) (h3 : Cond.initialized "java/lang/Math" ∈ tbG) (h4 : Cond.code Lib.Math.abs.name Lib.Math.abs.code 1 (some .int) ∈ tbG) (hf : 1 ≤ rm.frames) (hl : (st.map fun v => v.category).sum + 13 ≤ rm.locals) (hc : n1 ≤ rm.cells) (hs : n2 ≤ rm.slots) (k : V K ad n1 n2 Z M (pc + 3) lv (.int (if 0 ≤ x then x else 0 - x) :: st)) : V K ad n1 n2 Z M pc lv (.int x :: st) := fun H locs ls hz hP hD hS h9 => va_mabs f.1 f.2.1 (by rw [f.2.2.1]; exact h9.1.symm) f.2.2.2.2.1 (f.2.2.2.2.2.1 _ h1) (f.2.2.2.2.2.1 _ h2) (f.2.2.2.2.2.1 _ h3) (f.2.2.2.2.2.1 _ h4) (by rw [f.2.2.2.2.2.2.2.2.1]; exact hf) (by rw [f.2.2.2.2.2.2.2.2.1]; exact hl) (by rw [f.2.2.2.2.2.2.2.2.1]; exact hc) (by rw [f.2.2.2.2.2.2.2.2.1]; exact hs) hd (k H locs ls hz hP hD hS h9)
end VR
end
section
/-! contracts over (Z, M), their entry, their end, calls, new cells -/
def PF (D : va_G) (cy : Nat → ClassId) (X : va_W) (sz : Nat) (as : List Value) (ad : Nat → Nat) (Z : ZT) (M : MT) : Array Value → State → Prop := va_Pc as (fun U => U.heap.size = sz ∧ KK D cy U ∧ zok Z ∧ va_P D vwCl (X ++ wl cy ad Z M) U.heap ∧ va_D (fun _ => True) (X ++ wl cy ad Z M))
def QF (D : va_G) (cy : Nat → ClassId) (X : va_W) (A : Nat → Prop) (post : Option Value → (Nat → Nat) → ZT → MT → Prop) : Array Value → State → Outcome → State → Prop := fun _ st oc t => (∃ (v : Option Value) (ad' : Nat → Nat) (Z' : ZT) (M' : MT), oc = .returned v ∧ post v ad' Z' M' ∧ zok Z' ∧ va_P D vwCl (X ++ wl cy ad' Z' M') t.heap ∧ va_D A (X ++ wl cy ad' Z' M')) ∧ va_F A st t
/-- a method's contract: from the cells (Z, M) at 'ad', with the arguments 'as', it ends with 'post' -/
def Ctr (l : Launch) (y : MethodName) (cc : ByteArray) (nL : Nat) (ret : Option FieldType) (rm : Room) (D : va_G) (cy : Nat → ClassId) (X : va_W) (ad : Nat → Nat) (Z : ZT) (M : MT) (as : List Value) (post : Option Value → (Nat → Nat) → ZT → MT → Prop) : Prop :=
  ∀ sz : Nat, Met l y (.code y cc nL ret :: tbG) rm (PF D cy X sz as ad Z M) (QF D cy X (va_A (X ++ wl cy ad Z M) sz) post) rm.cells rm.slots (va_A (X ++ wl cy ad Z M) sz)
/-- the goal of a walk is a contract's end -/
def FQ (K : KT) (ret : Option FieldType) (rm : Room) (post : Option Value → (Nat → Nat) → ZT → MT → Prop) : Prop :=
  (kmt K).sig.returnType = ret ∧ kQ K = MQ (kb K) (QF (kD K) (ky K) (kX K) (kA K) post) (ka K) (ks K) rm.cells rm.slots (kA K)
theorem Ctr.of {l : Launch} {y : MethodName} {cc : ByteArray} {nL : Nat} {ret : Option FieldType} {rm : Room} {D : va_G} {cy : Nat → ClassId} {X : va_W} {ad : Nat → Nat} {Z : ZT} {M : MT} {as : List Value} {post : Option Value → (Nat → Nat) → ZT → MT → Prop} (hy : plainName y.cls = true) (ha : (lg_sl as).length ≤ nL)
    (body : ∀ K : KT, Fx K cc y.cls nL rm → FQ K ret rm post → (kmt K).name = y.name → kl K = l → kD K = D → ky K = cy → kX K = X → V K ad 0 0 Z M 0 (lv_args 0 as) []) : Ctr l y cc nL ret rm D cy X ad Z M as post := by
  intro sz
  refine Met.ofW (cc := cc) (maxL := nL) (ret := ret) hy rfl ?_
  intro p e s m args below meth c s₁ B hml hv
  obtain ⟨rfl, hsz, hK, hz, hP, hD0⟩ := hv
  subst hsz
  have hts := atoms_spec (ws := .code y cc nL ret :: tbG) B.pre
  have hb := body (p, l, e, (headSpec (.code y cc nL ret :: tbG) rm).room, s, m, as.toArray, below, meth, c, MQ below (QF D cy X (va_A (X ++ wl cy ad Z M) s.heap.size) post) as.toArray s rm.cells rm.slots (va_A (X ++ wl cy ad Z M) s.heap.size), D, cy, va_A (X ++ wl cy ad Z M) s.heap.size, nL, X)
    ⟨B.exec, B.bytes, hml, rfl, findClass_of_methodNamed B.named, fun w h => hts w (List.mem_cons_of_mem _ h), hK, fun q h => Or.inr h, rfl, B.notSynchronized⟩ ⟨B.returns, rfl⟩ (name_of_methodNamed B.named B.method).1 rfl rfl rfl rfl
  have hl := lv_entry as (n := nL) ha
  rw [lg_entry_eq]
  exact hb s.heap [] _ hz hP hD0.self va_S.rf hl
section CR
variable {K : KT} {cc : ByteArray} {own : String} {nL : Nat} {rm : Room} {ad : Nat → Nat} {n1 n2 : Nat} {Z : ZT} {M : MT} {pc : Nat} {lv : List (Nat × Value)} {st : List Value} {post : Option Value → (Nat → Nat) → ZT → MT → Prop}
theorem FQ.qc {ret : Option FieldType} {H : Heap} {v : Option Value} (hp : post v ad Z M) (hz : zok Z) (hP : va_P (kD K) vwCl (kX K ++ wl (ky K) ad Z M) H) (hD : va_D (kA K) (kX K ++ wl (ky K) ad Z M)) {locs : List Loc} (hS : va_S (kA K) (ks K).heap H locs) (t : State) (ht : t.heap = H) : QF (kD K) (ky K) (kX K) (kA K) post (ka K) (ks K) (.returned v) t := ⟨⟨v, ad, Z, M, rfl, hp, hz, by rw [ht]; exact hP, hD⟩, hS.F ht⟩
theorem V_iret (f : Fx K cc own nL rm) {ty : FieldType} (q : FQ K (some ty) rm post) {x : Int32} (hd : decode cc pc = .ok (.ireturn, 1)) (hn : narrow ty (.int x) = .int x) (h1 : n1 ≤ rm.cells) (h2 : n2 ≤ rm.slots) (hp : post (some (.int x)) ad Z M) : V K ad n1 n2 Z M pc lv [.int x] := fun H locs ls hz hP hD hS hl => by
  refine W.widen h1 h2 ?_
  rw [q.2]
  exact W.zret f.1 f.2.1 q.1 hn (fun t ht _ => FQ.qc (ret := some ty) hp hz hP hD hS t ht) hS.2.2 hd f.2.2.2.2.2.2.2.2.2
theorem V_lret (f : Fx K cc own nL rm) (q : FQ K (some .long) rm post) {x : Int64} (hd : decode cc pc = .ok (.lreturn, 1)) (h1 : n1 ≤ rm.cells) (h2 : n2 ≤ rm.slots) (hp : post (some (.long x)) ad Z M) : V K ad n1 n2 Z M pc lv [.long x] := fun H locs ls hz hP hD hS hl => by
  refine W.widen h1 h2 ?_
  rw [q.2]
  exact W.lret f.1 f.2.1 q.1 (fun t ht _ => FQ.qc (ret := some .long) hp hz hP hD hS t ht) hS.2.2 hd f.2.2.2.2.2.2.2.2.2
theorem V_vret (f : Fx K cc own nL rm) (q : FQ K none rm post) (hd : decode cc pc = .ok (.return_, 1)) (h1 : n1 ≤ rm.cells) (h2 : n2 ≤ rm.slots) (hp : post none ad Z M) : V K ad n1 n2 Z M pc lv [] := fun H locs ls hz hP hD hS hl => by
  refine W.widen h1 h2 ?_
  rw [q.2]
  exact W.vret f.1 f.2.1 q.1 (fun t ht _ => FQ.qc (ret := none) hp hz hP hD hS t ht) hS.2.2 hd f.2.2.2.2.2.2.2.2.2
theorem V_aret (f : Fx K cc own nL rm) {C : String} (q : FQ K (some (.object C)) rm post) {a : Nat} (hd : decode cc pc = .ok (.areturn, 1)) (h1 : n1 ≤ rm.cells) (h2 : n2 ≤ rm.slots) (hp : post (some (.ref a)) ad Z M) : V K ad n1 n2 Z M pc lv [.ref a] := fun H locs ls hz hP hD hS hl => by
  refine W.widen h1 h2 ?_
  rw [q.2]
  exact W.aret f.1 f.2.1 q.1 (Or.inl ⟨_, rfl⟩) (Or.inr ⟨_, rfl⟩) (fun t ht _ => FQ.qc (ret := some (.object C)) hp hz hP hD hS t ht) hS.2.2 hd f.2.2.2.2.2.2.2.2.2
/-- what a call of y needs of the words -/
def LK (own : String) (idx : Nat) (y : MethodName) (bytes : ByteArray) (maxL : Nat) (ret : Option FieldType) (n : Nat) : Prop := Cond.code y bytes maxL ret ∈ tbG ∧ Cond.initialized y.cls ∈ tbG ∧ (y.cls ≠ "java/lang/invoke/MethodHandle" ∧ y.cls ≠ "java/lang/invoke/VarHandle" ∧ (parseMethodDescriptor y.desc).map (fun d => d.parameters.length) = some n)
theorem goodW {c : Cond} (h : c ∈ tbG) : GoodIn tbG (c :: tbG) := fun w hw => by
  rcases List.mem_cons.mp hw with rfl | hw
  · exact tbG_good _ h
  · exact tbG_good _ hw
variable {y : MethodName} {bytes : ByteArray} {maxL idx n : Nat} {ret : Option FieldType} {rm2 : Room} {As rest : List Value} {post2 : Option Value → (Nat → Nat) → ZT → MT → Prop} {as : List Value}
/-- behind a call -/
theorem V_behind {H : Heap} {locs : List Loc} {ls : Array Slot} {st0 : List Value} {a : Array Value} {ad0 : Nat → Nat} (f : Fx K cc own nL rm)
    (hr : va_Run (kp K) (kl K) (ke K) (kR K) (ks K) (km K) (ka K) (kb K) (kmt K) (kc K) H locs n1 n2 rm2.cells rm2.slots (F0 (km K) pc ls st0) rest (QF (kD K) (ky K) (kX K) (va_A (kX K ++ wl (ky K) ad0 Z M) H.size) post2 a) (va_A (kX K ++ wl (ky K) ad0 Z M) H.size))
    (hD : va_D (kA K) (kX K ++ wl (ky K) ad0 Z M)) (hS : va_S (kA K) (ks K).heap H locs) (hl : lv_has ls (kn K) lv)
    (kk : ∀ (v : Option Value) (ad' : Nat → Nat) (Z' : ZT) (M' : MT), post2 v ad' Z' M' → V K ad' (n1 + rm2.cells) (n2 + rm2.slots) Z' M' (pc + 3) lv (v.toList ++ rest)) :
    W (kp K) (kl K) (ke K) (kR K) (ks K) (km K) (ka K) (kb K) (kmt K) (kc K) H locs n1 n2 (kQ K) (F0 (km K) pc ls st0) := by
  have hFc : ∀ q, va_A (kX K ++ wl (ky K) ad0 Z M) H.size q → kA K q := by
    intro q hq
    rcases hq with ⟨k, e, h⟩ | h
    · exact hD.2 k (q, e) h
    · exact f.2.2.2.2.2.2.2.1 q (Nat.le_trans hS.1 h)
  intro T hT X
  obtain ⟨v0, st₀, t, T', L, h0, X', hL, e1, e2, ⟨⟨v, ad', Z', M', hv, hp, hz', hP', hD'⟩, hz1, hk1⟩, st9⟩ := hr T hT X
  cases hv
  rw [h0] at hz1 hk1
  have hS' : va_S (kA K) (ks K).heap T'.heap (locs ++ L) := ⟨Nat.le_trans hS.1 (by rw [e1]; exact hz1), fun q h1 h2 => by rw [e1, hk1 q (Nat.lt_of_lt_of_le h1 hS.1) (fun z => h2 (hFc q z))]; exact hS.2.1 q h1 h2, fun q hq => by
      rcases List.mem_append.mp hq with h | h
      · exact hS.2.2 q h
      · exact hFc _ (hL q h)⟩
  obtain ⟨t2, a1, b1⟩ := kk v0 ad' Z' M' hp T'.heap (locs ++ L) ls hz' (by rw [e1]; exact hP') (hD'.weaken (fun k q _ h => hFc q.1 h)) hS' hl T' rfl X'
  exact ⟨t2, st9 t2 a1, b1⟩
theorem PF.blind {D : va_G} {cy : Nat → ClassId} {X : va_W} {sz : Nat} : FrameBlind (PF D cy X sz as ad Z M) := fun a U g mk q => by
  obtain ⟨q0, q1, q2, q3, q4, q5⟩ := q
  exact ⟨q0, q1, q2.calling, q3, q4, q5⟩
theorem PF.pre {s : State} {H : Heap} {D : va_G} {cy : Nat → ClassId} {X : va_W} (hK : KK D cy s) (hz : zok Z) {A : Nat → Prop} (hP : va_P D vwCl (X ++ wl cy ad Z M) H) (hD : va_D A (X ++ wl cy ad Z M)) : ∀ U : State, U.heap = H → s.WarmedH U.vm → PF D cy X H.size as ad Z M as.toArray U := fun U hU hW => ⟨rfl, by rw [hU], hK.warm hW, hz, by rw [hU]; exact hP, hD.weaken (fun _ _ _ _ => trivial)⟩
theorem V_callV (f : Fx K cc own nL rm) (hd : decode cc pc = .ok (.invokevirtual idx, 3)) (lk : LK own idx y bytes maxL ret n) (hl1 : Cond.methodLink own idx y ∈ tbG) (hin : Cond.instanceMethod y ∈ tbG) (hse : Cond.selects y.cls y y ∈ tbG)
    {i ci zn : Nat} {rs : List (Option Nat)} {T : u_T} {N : Nat} (hM : Ctr (kl K) y bytes maxL ret rm2 (kD K) (ky K) (kX K) ad Z M (.ref (ad i) :: As) post2)
    (hi : Z[i]? = some (ci, zn, rs)) (hci : ci < 10) (hc : vwCl[ci]? = some (y.cls, T, N)) (hn : As.length = n) (hst : st = As.reverse ++ .ref (ad i) :: rest) (hcat : (rest.map fun v => v.category).sum ≤ 8)
    (hR : rm2.frames + 1 ≤ rm.frames ∧ 8 + (maxL + 11) + rm2.locals ≤ rm.locals) (hC : n1 + rm2.cells ≤ rm.cells ∧ n2 + rm2.slots ≤ rm.slots)
    (kk : ∀ (v : Option Value) (ad' : Nat → Nat) (Z' : ZT) (M' : MT), post2 v ad' Z' M' → V K ad' (n1 + rm2.cells) (n2 + rm2.slots) Z' M' (pc + 3) lv (v.toList ++ rest)) : V K ad n1 n2 Z M pc lv st := fun H locs ls hz hP hD hS hl => by
  subst hst
  have ht := f.2.2.2.2.2.1
  have hRm := f.2.2.2.2.2.2.2.2.1
  have he := wl_get (cy := ky K) (ad := ad) (M := M) (X := kX K) hi
  rw [cE_obj hci] at he
  refine V_behind f (va_runV (C := y.cls) (As := As) (b := ad i) (n := n) (index := idx) (ret := ret) (maxL := maxL) (bytes := bytes) (nL := kn K) (Ts := tbG) ⟨f.1, f.2.1, f.2.2.1, f.2.2.2.2.1, ht⟩ (hM H.size) ⟨callB_of n ht (goodW lk.1) rfl rfl rfl (ht _ lk.2.1) (ht _ hl1) lk.2.2 (by rw [hRm]; exact hR), ht _ hin, ht _ hse⟩ ⟨PF.blind, va_recv f.2.2.2.2.2.2.1.1 hP hc he, PF.pre f.2.2.2.2.2.2.1 hz hP hD⟩ rfl hn hl.1 rfl (lv_room hcat) hd (by rw [hRm]; exact hC)) hD hS hl kk
theorem V_callS (f : Fx K cc own nL rm) (hd : decode cc pc = .ok (.invokestatic idx, 3)) (lk : LK own idx y bytes maxL ret n) (hl1 : Cond.methodLink own idx y ∈ tbG) (hsta : Cond.static y ∈ tbG)
    (hM : Ctr (kl K) y bytes maxL ret rm2 (kD K) (ky K) (kX K) ad Z M As post2) (hn : As.length = n) (hst : st = As.reverse ++ rest) (hcat : (rest.map fun v => v.category).sum ≤ 8)
    (hR : rm2.frames + 1 ≤ rm.frames ∧ 8 + (maxL + 11) + rm2.locals ≤ rm.locals) (hC : n1 + rm2.cells ≤ rm.cells ∧ n2 + rm2.slots ≤ rm.slots)
    (kk : ∀ (v : Option Value) (ad' : Nat → Nat) (Z' : ZT) (M' : MT), post2 v ad' Z' M' → V K ad' (n1 + rm2.cells) (n2 + rm2.slots) Z' M' (pc + 3) lv (v.toList ++ rest)) : V K ad n1 n2 Z M pc lv st := fun H locs ls hz hP hD hS hl => by
  subst hst
  have ht := f.2.2.2.2.2.1
  have hRm := f.2.2.2.2.2.2.2.2.1
  refine V_behind f (va_runS (As := As) (n := n) (index := idx) (ret := ret) (maxL := maxL) (bytes := bytes) (nL := kn K) (Ts := tbG) ⟨f.1, f.2.1, f.2.2.1, f.2.2.2.2.1, ht⟩ (hM H.size) ⟨callB_of n ht (goodW lk.1) rfl rfl rfl (ht _ lk.2.1) (ht _ hl1) lk.2.2 (by rw [hRm]; exact hR), ht _ hsta⟩ ⟨PF.blind, PF.pre f.2.2.2.2.2.2.1 hz hP hD⟩ rfl hn hl.1 rfl (lv_room hcat) hd (by rw [hRm]; exact hC)) hD hS hl kk
theorem V_callSN (f : Fx K cc own nL rm) (hd : decode cc pc = .ok (.invokestatic idx, 3)) (lk : LK own idx y bytes maxL ret n) {host : String} (hl1 : (own, idx, y, host) ∈ nestL) (hsta : Cond.static y ∈ tbG)
    (hM : Ctr (kl K) y bytes maxL ret rm2 (kD K) (ky K) (kX K) ad Z M As post2) (hn : As.length = n) (hst : st = As.reverse ++ rest) (hcat : (rest.map fun v => v.category).sum ≤ 8)
    (hR : rm2.frames + 1 ≤ rm.frames ∧ 8 + (maxL + 11) + rm2.locals ≤ rm.locals) (hC : n1 + rm2.cells ≤ rm.cells ∧ n2 + rm2.slots ≤ rm.slots)
    (kk : ∀ (v : Option Value) (ad' : Nat → Nat) (Z' : ZT) (M' : MT), post2 v ad' Z' M' → V K ad' (n1 + rm2.cells) (n2 + rm2.slots) Z' M' (pc + 3) lv (v.toList ++ rest)) : V K ad n1 n2 Z M pc lv st := fun H locs ls hz hP hD hS hl => by
  subst hst
  have ht := f.2.2.2.2.2.1
  have hRm := f.2.2.2.2.2.2.2.2.1
  refine V_behind f (va_runSN (As := As) (n := n) (index := idx) (ret := ret) (maxL := maxL) (bytes := bytes) (nL := kn K) (Ts := tbG) (host := host) ⟨f.1, f.2.1, f.2.2.1, f.2.2.2.2.1, ht⟩ (hM H.size) ⟨va_cnB n ht (goodW lk.1) rfl rfl rfl (f.2.2.2.2.2.2.1.2.2 _ hl1) (ht _ lk.2.1) lk.2.2 (by rw [hRm]; exact hR), ht _ hsta, trivial⟩ ⟨PF.blind, PF.pre f.2.2.2.2.2.2.1 hz hP hD⟩ rfl hn hl.1 rfl (lv_room hcat) hd (by rw [hRm]; exact hC)) hD hS hl kk
theorem V_callI (f : Fx K cc own nL rm) (hd : decode cc pc = .ok (.invokespecial idx, 3)) (lk : LK own idx y bytes maxL none n) (hl1 : Cond.methodLink own idx y ∈ tbG) (hin : Cond.instanceMethod y ∈ tbG) (hy1 : y.name = "<init>")
    {i : Nat} (hM : Ctr (kl K) y bytes maxL none rm2 (kD K) (ky K) (kX K) ad Z M (.ref (ad i) :: As) post2)
    (hn : As.length = n) (hst : st = As.reverse ++ .ref (ad i) :: rest) (hcat : (rest.map fun v => v.category).sum ≤ 8)
    (hR : rm2.frames + 1 ≤ rm.frames ∧ 8 + (maxL + 11) + rm2.locals ≤ rm.locals) (hC : n1 + rm2.cells ≤ rm.cells ∧ n2 + rm2.slots ≤ rm.slots)
    (kk : ∀ (v : Option Value) (ad' : Nat → Nat) (Z' : ZT) (M' : MT), post2 v ad' Z' M' → V K ad' (n1 + rm2.cells) (n2 + rm2.slots) Z' M' (pc + 3) lv (v.toList ++ rest)) : V K ad n1 n2 Z M pc lv st := fun H locs ls hz hP hD hS hl => by
  subst hst
  have ht := f.2.2.2.2.2.1
  have hRm := f.2.2.2.2.2.2.2.2.1
  refine V_behind f (va_runI (As := As) (b := ad i) (n := n) (index := idx) (maxL := maxL) (bytes := bytes) (nL := kn K) (Ts := tbG) ⟨f.1, f.2.1, f.2.2.1, f.2.2.2.2.1, ht⟩ (hM H.size) ⟨callB_of n ht (goodW lk.1) rfl rfl rfl (ht _ lk.2.1) (ht _ hl1) lk.2.2 (by rw [hRm]; exact hR), hy1, ht _ hin⟩ ⟨PF.blind, PF.pre f.2.2.2.2.2.2.1 hz hP hD⟩ rfl hn hl.1 rfl (lv_room hcat) hd (by rw [hRm]; exact hC)) hD hS hl kk
theorem V_callIN (f : Fx K cc own nL rm) (hd : decode cc pc = .ok (.invokespecial idx, 3)) (lk : LK own idx y bytes maxL none n) {host : String} (hl1 : (own, idx, y, host) ∈ nestL) (hin : Cond.instanceMethod y ∈ tbG) (hy1 : y.name = "<init>")
    {i : Nat} (hM : Ctr (kl K) y bytes maxL none rm2 (kD K) (ky K) (kX K) ad Z M (.ref (ad i) :: As) post2)
    (hn : As.length = n) (hst : st = As.reverse ++ .ref (ad i) :: rest) (hcat : (rest.map fun v => v.category).sum ≤ 8)
    (hR : rm2.frames + 1 ≤ rm.frames ∧ 8 + (maxL + 11) + rm2.locals ≤ rm.locals) (hC : n1 + rm2.cells ≤ rm.cells ∧ n2 + rm2.slots ≤ rm.slots)
    (kk : ∀ (v : Option Value) (ad' : Nat → Nat) (Z' : ZT) (M' : MT), post2 v ad' Z' M' → V K ad' (n1 + rm2.cells) (n2 + rm2.slots) Z' M' (pc + 3) lv (v.toList ++ rest)) : V K ad n1 n2 Z M pc lv st := fun H locs ls hz hP hD hS hl => by
  subst hst
  have ht := f.2.2.2.2.2.1
  have hRm := f.2.2.2.2.2.2.2.2.1
  refine V_behind f (va_runIN (As := As) (b := ad i) (n := n) (index := idx) (maxL := maxL) (bytes := bytes) (nL := kn K) (Ts := tbG) (host := host) ⟨f.1, f.2.1, f.2.2.1, f.2.2.2.2.1, ht⟩ (hM H.size) ⟨va_cnB n ht (goodW lk.1) rfl rfl rfl (f.2.2.2.2.2.2.1.2.2 _ hl1) (ht _ lk.2.1) lk.2.2 (by rw [hRm]; exact hR), hy1, ht _ hin⟩ ⟨PF.blind, PF.pre f.2.2.2.2.2.2.1 hz hP hD⟩ rfl hn hl.1 rfl (lv_room hcat) hd (by rw [hRm]; exact hC)) hD hS hl kk
theorem wl_push1 {cy : Nat → ClassId} {ad : Nat → Nat} {Z : ZT} {M : MT} {X : va_W} {q : Nat} {e : va_E} {z : ZC} {m : Nat → Int32} (hz : zok Z) (he : e = cE cy (va_up ad Z.length q) z m) : (X ++ wl cy ad Z M) ++ [(q, e)] = X ++ wl cy (va_up ad Z.length q) (Z ++ [z]) (va_up M Z.length m) := by rw [he]; exact wl_push hz
theorem kV_new {ad : Nat → Nat} {n : Nat} : ∀ (bs : List Bool) (k : Nat), kV ad (List.replicate n none) (fun _ => 0) bs k = bs.map (fun b => if b then .null else .int 0) := by
  intro bs
  induction bs with
  | nil => intro k; rfl
  | cons c bs ih =>
    intro k
    have : (List.replicate n (none : Option Nat)).getD k none = none := by
      rw [List.getD_eq_getElem?_getD]
      cases h : (List.replicate n (none : Option Nat))[k]? with
      | none => rfl
      | some r => exact (List.mem_replicate.mp (List.mem_of_getElem? h)).2
    simp only [kV, List.map_cons, this, ih]
    rfl
/-- a new object of the class of number ci -/
theorem V_new (f : Fx K cc own nL rm) {index ci : Nat} {C : String} {T : u_T} {N : Nat} (hd : decode cc pc = .ok (.new index, 3)) (hci : ci < 10) (hc : vwCl[ci]? = some (C, T, N)) (hin : ∀ w ∈ u_ws C T N, w ∈ tbG) (ty : Nat → FieldType) (hty : ∀ k, k < N → parseFieldDescriptor (T k).2.2.1 = some (ty k)) (hcl : Cond.classLink own index C ∈ tbG) (hinst : Cond.instantiable C N ∈ tbG) (hini : Cond.initialized C ∈ tbG)
    (hfs : ∀ j, j < N → defaultValue (ty j) = vp_V ((kFl ci).map (fun b => if b then .null else .int 0)) j) (h1 : n1 + 1 ≤ rm.cells) (h2 : n2 + N ≤ rm.slots) (kk : ∀ q : Nat, V K (va_up ad Z.length q) (n1 + 1) (n2 + N) (Z ++ [(ci, 0, List.replicate N none)]) (va_up M Z.length (fun _ => 0)) (pc + 3) lv (.ref (va_up ad Z.length q Z.length) :: st)) : V K ad n1 n2 Z M pc lv st := fun H locs ls hz hP hD hS hl => by
  have hRm := f.2.2.2.2.2.2.2.2.1
  have ht := f.2.2.2.2.2.1
  refine va_new (C := C) (T := T) (N := N) (ci := ci) (fs := (kFl ci).map (fun b => if b then .null else .int 0)) f.1 f.2.1 ht hin ty hty f.2.2.2.2.1 (ht _ hcl) (ht _ hinst) (ht _ hini) f.2.2.2.2.2.2.1.1 hP hD hS f.2.2.2.2.2.2.2.1 hc hfs (by rw [hRm]; exact h1) (by rw [hRm]; exact h2) hd (fun q H1 hP1 hD1 hS1 => ?_)
  have he : (Sum.inr (ci, (kFl ci).map (fun b => if b then Value.null else Value.int 0)) : va_E) = cE (ky K) (va_up ad Z.length q) (ci, 0, List.replicate N none) (fun _ => 0) := by rw [cE_obj hci, kV_new]
  rw [wl_push1 hz he] at hP1 hD1
  have := kk q H1 locs ls (zok_push hz (fun j hj => by have := (List.mem_replicate.mp hj).2; cases this)) hP1 hD1 hS1 hl
  simpa [va_up] using this
theorem ArrCy {D : va_G} {cy : Nat → ClassId} {s : State} {ty : FieldType} {cA : ClassId} (hK : va_K D vwCl (tyL cy ++ [(cA, ty)]) s) (t0 : Nat) {c0 : ClassId} (h0 : (tyL cy)[t0]? = some (c0, ty)) (hno : ∀ C, ty ≠ .object C) : cA = c0 := by
  have a1 := (hK.2 6 (cA, ty) rfl).2
  have a2 := (hK.2 t0 (c0, ty) (by rw [List.getElem?_append_left (List.getElem?_eq_some_iff.mp h0).1]; exact h0)).2
  have b1 : s.vm.findClass ("[" ++ ty.toString) = some cA := by cases ty <;> first | exact a1 | exact absurd rfl (hno _)
  have b2 : s.vm.findClass ("[" ++ ty.toString) = some c0 := by cases ty <;> first | exact a2 | exact absurd rfl (hno _)
  rw [b1] at b2
  exact Option.some.inj b2
theorem ArrCyO {D : va_G} {cy : Nat → ClassId} {s : State} {C : String} {cA : ClassId} (hK : va_K D vwCl (tyL cy ++ [(cA, .object C)]) s) (t0 : Nat) {c0 : ClassId} (h0 : (tyL cy)[t0]? = some (c0, .object C)) : cA = c0 := by
  obtain ⟨-, -, -, -, -, b1⟩ := (hK.2 6 (cA, .object C) rfl).2
  obtain ⟨-, -, -, -, -, b2⟩ := (hK.2 t0 (c0, .object C) (by rw [List.getElem?_append_left (List.getElem?_eq_some_iff.mp h0).1]; exact h0)).2
  rw [b1] at b2
  exact Option.some.inj b2
/-- a new array of ints, bytes or booleans -/
theorem V_newa (f : Fx K cc own nL rm) {atype : ArrayType} {ty : FieldType} {t0 ci : Nat} (hd : decode cc pc = .ok (.newarray atype, 2)) (harr : Cond.arrayClass (newarray.typeOf atype) ∈ tbG) (hty : newarray.typeOf atype = ty) (hc1 : ¬ ci < 10) (hc2 : ci < 13) (h0 : ∀ cy : Nat → ClassId, (tyL cy)[t0]? = some (cy ci, ty)) (hno : ∀ C, ty ≠ .object C) {x : Int32} {N : Nat} (ha : ∀ cA : ClassId, vp_cell cA (N, .inl (fun _ => 0)) = arrV cA N (fun _ => defaultValue ty)) (hn : ¬ x < 0) (hN : x.toNatClampNeg = N) (hbytes : N * componentBytes ty ≤ 536870912) (h1 : n1 + 1 ≤ rm.cells) (h2 : n2 + N ≤ rm.slots)
    (kk : ∀ q : Nat, V K (va_up ad Z.length q) (n1 + 1) (n2 + N) (Z ++ [(ci, N, [])]) (va_up M Z.length (fun _ => 0)) (pc + 2) lv (.ref (va_up ad Z.length q Z.length) :: st)) : V K ad n1 n2 Z M pc lv (.int x :: st) := fun H locs ls hz hP hD hS hl => by
  have hRm := f.2.2.2.2.2.2.2.2.1
  have ht := f.2.2.2.2.2.1
  refine va_newa (ty := ty) (N' := N) (a0 := (N, .inl (fun _ => 0))) f.1 f.2.1 (ht _ harr) hty f.2.2.2.2.2.2.1.1 hP hD hS f.2.2.2.2.2.2.2.1 ha hn hN hbytes (by rw [hRm]; exact h1) (by rw [hRm]; exact h2) hd (fun q cA H1 hK1 hP1 hD1 hS1 => ?_)
  have hcA := ArrCy hK1 t0 (h0 (ky K)) hno
  subst hcA
  have he : (Sum.inl (ky K ci, N, Sum.inl (fun _ => 0)) : va_E) = cE (ky K) (va_up ad Z.length q) (ci, N, []) (fun _ => 0) := by rw [cE_int hc1 hc2]
  rw [wl_push1 hz he] at hP1 hD1
  have := kk q H1 locs ls (zok_push hz (fun j hj => by cases hj)) hP1 hD1 hS1 hl
  simpa [va_up] using this
/-- a new array of references -/
theorem V_newq (f : Fx K cc own nL rm) {index t0 ci : Nat} {C : String} (hd : decode cc pc = .ok (.anewarray index, 3)) (hcl : Cond.classLink own index C ∈ tbG) (hC : C ∈ ["PeatBog$Bay", "PeatBog$Law", "PeatBog$Stack"]) (hc2 : ¬ ci < 13) (h0 : ∀ cy : Nat → ClassId, (tyL cy)[t0]? = some (cy ci, .object C)) {x : Int32} {N : Nat} (hn : ¬ x < 0) (hN : x.toNatClampNeg = N) (hbytes : N * 4 ≤ 536870912) (h1 : n1 + 1 ≤ rm.cells) (h2 : n2 + N ≤ rm.slots)
    (kk : ∀ q : Nat, V K (va_up ad Z.length q) (n1 + 1) (n2 + N) (Z ++ [(ci, N, List.replicate N none)]) (va_up M Z.length (fun _ => 0)) (pc + 3) lv (.ref (va_up ad Z.length q Z.length) :: st)) : V K ad n1 n2 Z M pc lv (.int x :: st) := fun H locs ls hz hP hD hS hl => by
  have hRm := f.2.2.2.2.2.2.2.2.1
  have ht := f.2.2.2.2.2.1
  refine va_newq (C := C) (N' := N) f.1 f.2.1 f.2.2.2.2.1 (ht _ hcl) (f.2.2.2.2.2.2.1.2.1 C hC) f.2.2.2.2.2.2.1.1 hP hD hS f.2.2.2.2.2.2.2.1 hn hN hbytes (by rw [hRm]; exact h1) (by rw [hRm]; exact h2) hd (fun q cA H1 hK1 hP1 hD1 hS1 => ?_)
  have hcA := ArrCyO hK1 t0 (h0 (ky K))
  subst hcA
  have he : (Sum.inl (ky K ci, N, Sum.inr (Sum.inr (Sum.inr (Sum.inr (fun _ => none))))) : va_E) = cE (ky K) (va_up ad Z.length q) (ci, N, List.replicate N none) (fun _ => 0) := by
    rw [cE_ref hc2]
    congr 7
    funext k
    have : (List.replicate N (none : Option Nat)).getD k none = none := by
      rw [List.getD_eq_getElem?_getD]
      cases h : (List.replicate N (none : Option Nat))[k]? with
      | none => rfl
      | some r => exact (List.mem_replicate.mp (List.mem_of_getElem? h)).2
    rw [this]
    rfl
  rw [wl_push1 hz he] at hP1 hD1
  have := kk q H1 locs ls (zok_push hz (fun j hj => by have := (List.mem_replicate.mp hj).2; cases this)) hP1 hD1 hS1 hl
  simpa [va_up] using this
end CR
end
section
theorem tbG_of {w : Cond} (h : w ∈ lw_tbl) (g : goodWord w = true) : w ∈ tbG := List.mem_filter.mpr ⟨h, g⟩
theorem inG0 : ∀ w ∈ wsX00, w ∈ tbG := fun w h => List.mem_filter.mpr ⟨(by decide +kernel : ∀ w ∈ wsX00, w ∈ lw_tbl) w h, (by decide +kernel : ∀ w ∈ wsX00, goodWord w = true) w h⟩
theorem ini0 : Cond.initialized RX0 ∈ tbG := tbG_in 49 (by decide +kernel) (by decide +kernel)
theorem ist0 : Cond.instantiable RX0 7 ∈ tbG := tbG_in 241 (by decide +kernel) (by decide +kernel)
theorem inG1 : ∀ w ∈ wsX10, w ∈ tbG := fun w h => List.mem_filter.mpr ⟨(by decide +kernel : ∀ w ∈ wsX10, w ∈ lw_tbl) w h, (by decide +kernel : ∀ w ∈ wsX10, goodWord w = true) w h⟩
theorem ini1 : Cond.initialized RX1 ∈ tbG := tbG_in 43 (by decide +kernel) (by decide +kernel)
theorem ist1 : Cond.instantiable RX1 15 ∈ tbG := tbG_in 71 (by decide +kernel) (by decide +kernel)
theorem inG2 : ∀ w ∈ wsX20, w ∈ tbG := fun w h => List.mem_filter.mpr ⟨(by decide +kernel : ∀ w ∈ wsX20, w ∈ lw_tbl) w h, (by decide +kernel : ∀ w ∈ wsX20, goodWord w = true) w h⟩
theorem ini2 : Cond.initialized RX2 ∈ tbG := tbG_in 46 (by decide +kernel) (by decide +kernel)
theorem ist2 : Cond.instantiable RX2 2 ∈ tbG := tbG_in 172 (by decide +kernel) (by decide +kernel)
theorem inG3 : ∀ w ∈ wsX30, w ∈ tbG := fun w h => List.mem_filter.mpr ⟨(by decide +kernel : ∀ w ∈ wsX30, w ∈ lw_tbl) w h, (by decide +kernel : ∀ w ∈ wsX30, goodWord w = true) w h⟩
theorem ini3 : Cond.initialized RX3 ∈ tbG := tbG_in 48 (by decide +kernel) (by decide +kernel)
theorem ist3 : Cond.instantiable RX3 8 ∈ tbG := tbG_in 210 (by decide +kernel) (by decide +kernel)
theorem inG4 : ∀ w ∈ wsX40, w ∈ tbG := fun w h => List.mem_filter.mpr ⟨(by decide +kernel : ∀ w ∈ wsX40, w ∈ lw_tbl) w h, (by decide +kernel : ∀ w ∈ wsX40, goodWord w = true) w h⟩
theorem ini4 : Cond.initialized RX4 ∈ tbG := tbG_in 44 (by decide +kernel) (by decide +kernel)
theorem ist4 : Cond.instantiable RX4 5 ∈ tbG := tbG_in 130 (by decide +kernel) (by decide +kernel)
theorem inG5 : ∀ w ∈ wsX50, w ∈ tbG := fun w h => List.mem_filter.mpr ⟨(by decide +kernel : ∀ w ∈ wsX50, w ∈ lw_tbl) w h, (by decide +kernel : ∀ w ∈ wsX50, goodWord w = true) w h⟩
theorem ini5 : Cond.initialized RX5 ∈ tbG := tbG_in 50 (by decide +kernel) (by decide +kernel)
theorem ist5 : Cond.instantiable RX5 9 ∈ tbG := tbG_in 275 (by decide +kernel) (by decide +kernel)
theorem inG6 : ∀ w ∈ wsX60, w ∈ tbG := fun w h => List.mem_filter.mpr ⟨(by decide +kernel : ∀ w ∈ wsX60, w ∈ lw_tbl) w h, (by decide +kernel : ∀ w ∈ wsX60, goodWord w = true) w h⟩
theorem ini6 : Cond.initialized RX6 ∈ tbG := tbG_in 45 (by decide +kernel) (by decide +kernel)
theorem ist6 : Cond.instantiable RX6 2 ∈ tbG := tbG_in 157 (by decide +kernel) (by decide +kernel)
theorem inG7 : ∀ w ∈ wsX70, w ∈ tbG := fun w h => List.mem_filter.mpr ⟨(by decide +kernel : ∀ w ∈ wsX70, w ∈ lw_tbl) w h, (by decide +kernel : ∀ w ∈ wsX70, goodWord w = true) w h⟩
theorem ini7 : Cond.initialized RX7 ∈ tbG := tbG_in 47 (by decide +kernel) (by decide +kernel)
theorem ist7 : Cond.instantiable RX7 6 ∈ tbG := tbG_in 178 (by decide +kernel) (by decide +kernel)
theorem inG8 : ∀ w ∈ wsX80, w ∈ tbG := fun w h => List.mem_filter.mpr ⟨(by decide +kernel : ∀ w ∈ wsX80, w ∈ lw_tbl) w h, (by decide +kernel : ∀ w ∈ wsX80, goodWord w = true) w h⟩
theorem ini8 : Cond.initialized RX8 ∈ tbG := tbG_in 42 (by decide +kernel) (by decide +kernel)
theorem ist8 : Cond.instantiable RX8 15 ∈ tbG := tbG_in 58 (by decide +kernel) (by decide +kernel)
theorem inG9 : ∀ w ∈ wsX90, w ∈ tbG := fun w h => List.mem_filter.mpr ⟨(by decide +kernel : ∀ w ∈ wsX90, w ∈ lw_tbl) w h, (by decide +kernel : ∀ w ∈ wsX90, goodWord w = true) w h⟩
theorem ini9 : Cond.initialized RX9 ∈ tbG := tbG_in 51 (by decide +kernel) (by decide +kernel)
theorem ist9 : Cond.instantiable RX9 48 ∈ tbG := tbG_in 766 (by decide +kernel) (by decide +kernel)
theorem lf_8_11 : LF RX8 11 8 0 RX8 TX8 15 := ⟨by decide, rfl, by decide, tbG_in 316 (by decide +kernel) (by decide +kernel), inG8⟩
theorem lf_8_17 : LF RX8 17 8 1 RX8 TX8 15 := ⟨by decide, rfl, by decide, tbG_in 317 (by decide +kernel) (by decide +kernel), inG8⟩
theorem lf_8_23 : LF RX8 23 8 2 RX8 TX8 15 := ⟨by decide, rfl, by decide, tbG_in 318 (by decide +kernel) (by decide +kernel), inG8⟩
theorem lf_8_28 : LF RX8 28 8 3 RX8 TX8 15 := ⟨by decide, rfl, by decide, tbG_in 319 (by decide +kernel) (by decide +kernel), inG8⟩
theorem lf_8_35 : LF RX8 35 8 4 RX8 TX8 15 := ⟨by decide, rfl, by decide, tbG_in 320 (by decide +kernel) (by decide +kernel), inG8⟩
theorem lf_8_42 : LF RX8 42 8 5 RX8 TX8 15 := ⟨by decide, rfl, by decide, tbG_in 321 (by decide +kernel) (by decide +kernel), inG8⟩
theorem lf_8_51 : LF RX8 51 8 6 RX8 TX8 15 := ⟨by decide, rfl, by decide, tbG_in 322 (by decide +kernel) (by decide +kernel), inG8⟩
theorem lf_8_58 : LF RX8 58 8 7 RX8 TX8 15 := ⟨by decide, rfl, by decide, tbG_in 323 (by decide +kernel) (by decide +kernel), inG8⟩
theorem lf_8_62 : LF RX8 62 8 8 RX8 TX8 15 := ⟨by decide, rfl, by decide, tbG_in 324 (by decide +kernel) (by decide +kernel), inG8⟩
theorem lf_8_66 : LF RX8 66 8 9 RX8 TX8 15 := ⟨by decide, rfl, by decide, tbG_in 325 (by decide +kernel) (by decide +kernel), inG8⟩
theorem lf_8_69 : LF RX8 69 8 10 RX8 TX8 15 := ⟨by decide, rfl, by decide, tbG_in 326 (by decide +kernel) (by decide +kernel), inG8⟩
theorem lf_8_72 : LF RX8 72 8 11 RX8 TX8 15 := ⟨by decide, rfl, by decide, tbG_in 327 (by decide +kernel) (by decide +kernel), inG8⟩
theorem lf_8_75 : LF RX8 75 8 12 RX8 TX8 15 := ⟨by decide, rfl, by decide, tbG_in 328 (by decide +kernel) (by decide +kernel), inG8⟩
theorem lf_8_78 : LF RX8 78 8 13 RX8 TX8 15 := ⟨by decide, rfl, by decide, tbG_in 329 (by decide +kernel) (by decide +kernel), inG8⟩
theorem lf_8_81 : LF RX8 81 8 14 RX8 TX8 15 := ⟨by decide, rfl, by decide, tbG_in 330 (by decide +kernel) (by decide +kernel), inG8⟩
theorem lf_8_98 : LF RX8 98 0 0 RX0 TX0 7 := ⟨by decide, rfl, by decide, tbG_in 247 (by decide +kernel) (by decide +kernel), inG0⟩
theorem lf_8_109 : LF RX8 109 1 3 RX1 TX1 15 := ⟨by decide, rfl, by decide, tbG_in 85 (by decide +kernel) (by decide +kernel), inG1⟩
theorem lf_8_116 : LF RX8 116 0 1 RX0 TX0 7 := ⟨by decide, rfl, by decide, tbG_in 249 (by decide +kernel) (by decide +kernel), inG0⟩
theorem lf_8_126 : LF RX8 126 5 5 RX5 TX5 9 := ⟨by decide, rfl, by decide, tbG_in 293 (by decide +kernel) (by decide +kernel), inG5⟩
theorem lf_8_134 : LF RX8 134 0 4 RX0 TX0 7 := ⟨by decide, rfl, by decide, tbG_in 256 (by decide +kernel) (by decide +kernel), inG0⟩
theorem lf_8_137 : LF RX8 137 0 5 RX0 TX0 7 := ⟨by decide, rfl, by decide, tbG_in 258 (by decide +kernel) (by decide +kernel), inG0⟩
theorem lf_8_140 : LF RX8 140 1 2 RX1 TX1 15 := ⟨by decide, rfl, by decide, tbG_in 82 (by decide +kernel) (by decide +kernel), inG1⟩
theorem lf_8_152 : LF RX8 152 0 2 RX0 TX0 7 := ⟨by decide, rfl, by decide, tbG_in 252 (by decide +kernel) (by decide +kernel), inG0⟩
theorem lf_8_155 : LF RX8 155 0 3 RX0 TX0 7 := ⟨by decide, rfl, by decide, tbG_in 254 (by decide +kernel) (by decide +kernel), inG0⟩
theorem lf_8_165 : LF RX8 165 4 0 RX4 TX4 5 := ⟨by decide, rfl, by decide, tbG_in 136 (by decide +kernel) (by decide +kernel), inG4⟩
theorem lf_8_168 : LF RX8 168 5 3 RX5 TX5 9 := ⟨by decide, rfl, by decide, tbG_in 288 (by decide +kernel) (by decide +kernel), inG5⟩
theorem lf_8_192 : LF RX8 192 6 1 RX6 TX6 2 := ⟨by decide, rfl, by decide, tbG_in 164 (by decide +kernel) (by decide +kernel), inG6⟩
theorem lf_8_202 : LF RX8 202 1 0 RX1 TX1 15 := ⟨by decide, rfl, by decide, tbG_in 77 (by decide +kernel) (by decide +kernel), inG1⟩
theorem lf_8_213 : LF RX8 213 3 7 RX3 TX3 8 := ⟨by decide, rfl, by decide, tbG_in 223 (by decide +kernel) (by decide +kernel), inG3⟩
theorem lf_8_219 : LF RX8 219 4 1 RX4 TX4 5 := ⟨by decide, rfl, by decide, tbG_in 138 (by decide +kernel) (by decide +kernel), inG4⟩
theorem lf_8_222 : LF RX8 222 5 4 RX5 TX5 9 := ⟨by decide, rfl, by decide, tbG_in 291 (by decide +kernel) (by decide +kernel), inG5⟩
theorem lf_8_226 : LF RX8 226 5 0 RX5 TX5 9 := ⟨by decide, rfl, by decide, tbG_in 283 (by decide +kernel) (by decide +kernel), inG5⟩
theorem lf_8_227 : LF RX8 227 4 2 RX4 TX4 5 := ⟨by decide, rfl, by decide, tbG_in 140 (by decide +kernel) (by decide +kernel), inG4⟩
theorem lf_8_230 : LF RX8 230 4 3 RX4 TX4 5 := ⟨by decide, rfl, by decide, tbG_in 142 (by decide +kernel) (by decide +kernel), inG4⟩
theorem lf_8_233 : LF RX8 233 4 4 RX4 TX4 5 := ⟨by decide, rfl, by decide, tbG_in 144 (by decide +kernel) (by decide +kernel), inG4⟩
theorem lf_8_240 : LF RX8 240 1 1 RX1 TX1 15 := ⟨by decide, rfl, by decide, tbG_in 79 (by decide +kernel) (by decide +kernel), inG1⟩
theorem lf_0_9 : LF RX0 9 0 0 RX0 TX0 7 := ⟨by decide, rfl, by decide, tbG_in 246 (by decide +kernel) (by decide +kernel), inG0⟩
theorem lf_0_15 : LF RX0 15 0 1 RX0 TX0 7 := ⟨by decide, rfl, by decide, tbG_in 248 (by decide +kernel) (by decide +kernel), inG0⟩
theorem lf_0_18 : LF RX0 18 0 2 RX0 TX0 7 := ⟨by decide, rfl, by decide, tbG_in 250 (by decide +kernel) (by decide +kernel), inG0⟩
theorem lf_0_21 : LF RX0 21 0 3 RX0 TX0 7 := ⟨by decide, rfl, by decide, tbG_in 253 (by decide +kernel) (by decide +kernel), inG0⟩
theorem lf_0_24 : LF RX0 24 0 4 RX0 TX0 7 := ⟨by decide, rfl, by decide, tbG_in 255 (by decide +kernel) (by decide +kernel), inG0⟩
theorem lf_0_27 : LF RX0 27 0 5 RX0 TX0 7 := ⟨by decide, rfl, by decide, tbG_in 257 (by decide +kernel) (by decide +kernel), inG0⟩
theorem lf_0_30 : LF RX0 30 0 6 RX0 TX0 7 := ⟨by decide, rfl, by decide, tbG_in 259 (by decide +kernel) (by decide +kernel), inG0⟩
theorem lf_1_9 : LF RX1 9 1 0 RX1 TX1 15 := ⟨by decide, rfl, by decide, tbG_in 76 (by decide +kernel) (by decide +kernel), inG1⟩
theorem lf_1_15 : LF RX1 15 1 1 RX1 TX1 15 := ⟨by decide, rfl, by decide, tbG_in 78 (by decide +kernel) (by decide +kernel), inG1⟩
theorem lf_1_18 : LF RX1 18 1 2 RX1 TX1 15 := ⟨by decide, rfl, by decide, tbG_in 80 (by decide +kernel) (by decide +kernel), inG1⟩
theorem lf_1_21 : LF RX1 21 1 3 RX1 TX1 15 := ⟨by decide, rfl, by decide, tbG_in 83 (by decide +kernel) (by decide +kernel), inG1⟩
theorem lf_1_24 : LF RX1 24 1 4 RX1 TX1 15 := ⟨by decide, rfl, by decide, tbG_in 86 (by decide +kernel) (by decide +kernel), inG1⟩
theorem lf_1_27 : LF RX1 27 1 5 RX1 TX1 15 := ⟨by decide, rfl, by decide, tbG_in 87 (by decide +kernel) (by decide +kernel), inG1⟩
theorem lf_1_31 : LF RX1 31 1 6 RX1 TX1 15 := ⟨by decide, rfl, by decide, tbG_in 88 (by decide +kernel) (by decide +kernel), inG1⟩
theorem lf_1_34 : LF RX1 34 1 7 RX1 TX1 15 := ⟨by decide, rfl, by decide, tbG_in 89 (by decide +kernel) (by decide +kernel), inG1⟩
theorem lf_1_37 : LF RX1 37 1 8 RX1 TX1 15 := ⟨by decide, rfl, by decide, tbG_in 90 (by decide +kernel) (by decide +kernel), inG1⟩
theorem lf_1_40 : LF RX1 40 1 9 RX1 TX1 15 := ⟨by decide, rfl, by decide, tbG_in 91 (by decide +kernel) (by decide +kernel), inG1⟩
theorem lf_1_43 : LF RX1 43 1 10 RX1 TX1 15 := ⟨by decide, rfl, by decide, tbG_in 92 (by decide +kernel) (by decide +kernel), inG1⟩
theorem lf_1_46 : LF RX1 46 1 11 RX1 TX1 15 := ⟨by decide, rfl, by decide, tbG_in 93 (by decide +kernel) (by decide +kernel), inG1⟩
theorem lf_1_49 : LF RX1 49 1 12 RX1 TX1 15 := ⟨by decide, rfl, by decide, tbG_in 94 (by decide +kernel) (by decide +kernel), inG1⟩
theorem lf_1_52 : LF RX1 52 1 13 RX1 TX1 15 := ⟨by decide, rfl, by decide, tbG_in 95 (by decide +kernel) (by decide +kernel), inG1⟩
theorem lf_1_55 : LF RX1 55 1 14 RX1 TX1 15 := ⟨by decide, rfl, by decide, tbG_in 96 (by decide +kernel) (by decide +kernel), inG1⟩
theorem lf_1_75 : LF RX1 75 5 3 RX5 TX5 9 := ⟨by decide, rfl, by decide, tbG_in 287 (by decide +kernel) (by decide +kernel), inG5⟩
theorem lf_1_84 : LF RX1 84 5 0 RX5 TX5 9 := ⟨by decide, rfl, by decide, tbG_in 282 (by decide +kernel) (by decide +kernel), inG5⟩
theorem lf_2_9 : LF RX2 9 2 1 RX2 TX2 2 := ⟨by decide, rfl, by decide, tbG_in 203 (by decide +kernel) (by decide +kernel), inG2⟩
theorem lf_2_20 : LF RX2 20 2 0 RX2 TX2 2 := ⟨by decide, rfl, by decide, tbG_in 202 (by decide +kernel) (by decide +kernel), inG2⟩
theorem lf_2_49 : LF RX2 49 1 2 RX1 TX1 15 := ⟨by decide, rfl, by decide, tbG_in 81 (by decide +kernel) (by decide +kernel), inG1⟩
theorem lf_2_52 : LF RX2 52 1 3 RX1 TX1 15 := ⟨by decide, rfl, by decide, tbG_in 84 (by decide +kernel) (by decide +kernel), inG1⟩
theorem lf_3_9 : LF RX3 9 3 0 RX3 TX3 8 := ⟨by decide, rfl, by decide, tbG_in 215 (by decide +kernel) (by decide +kernel), inG3⟩
theorem lf_3_15 : LF RX3 15 3 1 RX3 TX3 8 := ⟨by decide, rfl, by decide, tbG_in 216 (by decide +kernel) (by decide +kernel), inG3⟩
theorem lf_3_18 : LF RX3 18 3 2 RX3 TX3 8 := ⟨by decide, rfl, by decide, tbG_in 217 (by decide +kernel) (by decide +kernel), inG3⟩
theorem lf_3_21 : LF RX3 21 3 3 RX3 TX3 8 := ⟨by decide, rfl, by decide, tbG_in 218 (by decide +kernel) (by decide +kernel), inG3⟩
theorem lf_3_24 : LF RX3 24 3 4 RX3 TX3 8 := ⟨by decide, rfl, by decide, tbG_in 219 (by decide +kernel) (by decide +kernel), inG3⟩
theorem lf_3_27 : LF RX3 27 3 5 RX3 TX3 8 := ⟨by decide, rfl, by decide, tbG_in 220 (by decide +kernel) (by decide +kernel), inG3⟩
theorem lf_3_31 : LF RX3 31 3 6 RX3 TX3 8 := ⟨by decide, rfl, by decide, tbG_in 221 (by decide +kernel) (by decide +kernel), inG3⟩
theorem lf_3_34 : LF RX3 34 3 7 RX3 TX3 8 := ⟨by decide, rfl, by decide, tbG_in 222 (by decide +kernel) (by decide +kernel), inG3⟩
theorem lf_3_57 : LF RX3 57 0 2 RX0 TX0 7 := ⟨by decide, rfl, by decide, tbG_in 251 (by decide +kernel) (by decide +kernel), inG0⟩
theorem lf_4_7 : LF RX4 7 4 0 RX4 TX4 5 := ⟨by decide, rfl, by decide, tbG_in 135 (by decide +kernel) (by decide +kernel), inG4⟩
theorem lf_4_13 : LF RX4 13 4 1 RX4 TX4 5 := ⟨by decide, rfl, by decide, tbG_in 137 (by decide +kernel) (by decide +kernel), inG4⟩
theorem lf_4_16 : LF RX4 16 4 2 RX4 TX4 5 := ⟨by decide, rfl, by decide, tbG_in 139 (by decide +kernel) (by decide +kernel), inG4⟩
theorem lf_4_19 : LF RX4 19 4 3 RX4 TX4 5 := ⟨by decide, rfl, by decide, tbG_in 141 (by decide +kernel) (by decide +kernel), inG4⟩
theorem lf_4_22 : LF RX4 22 4 4 RX4 TX4 5 := ⟨by decide, rfl, by decide, tbG_in 143 (by decide +kernel) (by decide +kernel), inG4⟩
theorem lf_4_31 : LF RX4 31 5 4 RX5 TX5 9 := ⟨by decide, rfl, by decide, tbG_in 290 (by decide +kernel) (by decide +kernel), inG5⟩
theorem lf_4_37 : LF RX4 37 5 0 RX5 TX5 9 := ⟨by decide, rfl, by decide, tbG_in 281 (by decide +kernel) (by decide +kernel), inG5⟩
theorem lf_5_9 : LF RX5 9 5 0 RX5 TX5 9 := ⟨by decide, rfl, by decide, tbG_in 280 (by decide +kernel) (by decide +kernel), inG5⟩
theorem lf_5_15 : LF RX5 15 5 1 RX5 TX5 9 := ⟨by decide, rfl, by decide, tbG_in 284 (by decide +kernel) (by decide +kernel), inG5⟩
theorem lf_5_18 : LF RX5 18 5 2 RX5 TX5 9 := ⟨by decide, rfl, by decide, tbG_in 285 (by decide +kernel) (by decide +kernel), inG5⟩
theorem lf_5_21 : LF RX5 21 5 3 RX5 TX5 9 := ⟨by decide, rfl, by decide, tbG_in 286 (by decide +kernel) (by decide +kernel), inG5⟩
theorem lf_5_24 : LF RX5 24 5 4 RX5 TX5 9 := ⟨by decide, rfl, by decide, tbG_in 289 (by decide +kernel) (by decide +kernel), inG5⟩
theorem lf_5_28 : LF RX5 28 5 5 RX5 TX5 9 := ⟨by decide, rfl, by decide, tbG_in 292 (by decide +kernel) (by decide +kernel), inG5⟩
theorem lf_5_31 : LF RX5 31 5 6 RX5 TX5 9 := ⟨by decide, rfl, by decide, tbG_in 294 (by decide +kernel) (by decide +kernel), inG5⟩
theorem lf_5_34 : LF RX5 34 5 7 RX5 TX5 9 := ⟨by decide, rfl, by decide, tbG_in 295 (by decide +kernel) (by decide +kernel), inG5⟩
theorem lf_5_37 : LF RX5 37 5 8 RX5 TX5 9 := ⟨by decide, rfl, by decide, tbG_in 296 (by decide +kernel) (by decide +kernel), inG5⟩
theorem lf_6_9 : LF RX6 9 6 0 RX6 TX6 2 := ⟨by decide, rfl, by decide, tbG_in 162 (by decide +kernel) (by decide +kernel), inG6⟩
theorem lf_6_13 : LF RX6 13 6 1 RX6 TX6 2 := ⟨by decide, rfl, by decide, tbG_in 163 (by decide +kernel) (by decide +kernel), inG6⟩
theorem lf_7_7 : LF RX7 7 7 1 RX7 TX7 6 := ⟨by decide, rfl, by decide, tbG_in 184 (by decide +kernel) (by decide +kernel), inG7⟩
theorem lf_7_15 : LF RX7 15 7 2 RX7 TX7 6 := ⟨by decide, rfl, by decide, tbG_in 185 (by decide +kernel) (by decide +kernel), inG7⟩
theorem lf_7_19 : LF RX7 19 7 3 RX7 TX7 6 := ⟨by decide, rfl, by decide, tbG_in 186 (by decide +kernel) (by decide +kernel), inG7⟩
theorem lf_7_22 : LF RX7 22 7 4 RX7 TX7 6 := ⟨by decide, rfl, by decide, tbG_in 187 (by decide +kernel) (by decide +kernel), inG7⟩
theorem lf_7_25 : LF RX7 25 7 5 RX7 TX7 6 := ⟨by decide, rfl, by decide, tbG_in 188 (by decide +kernel) (by decide +kernel), inG7⟩
theorem lf_7_28 : LF RX7 28 7 0 RX7 TX7 6 := ⟨by decide, rfl, by decide, tbG_in 183 (by decide +kernel) (by decide +kernel), inG7⟩
theorem lf_9_7 : LF RX9 7 9 10 RX9 TX9 48 := ⟨by decide, rfl, by decide, tbG_in 781 (by decide +kernel) (by decide +kernel), inG9⟩
theorem lf_9_13 : LF RX9 13 9 11 RX9 TX9 48 := ⟨by decide, rfl, by decide, tbG_in 782 (by decide +kernel) (by decide +kernel), inG9⟩
theorem lf_9_16 : LF RX9 16 9 12 RX9 TX9 48 := ⟨by decide, rfl, by decide, tbG_in 783 (by decide +kernel) (by decide +kernel), inG9⟩
theorem lf_9_19 : LF RX9 19 9 13 RX9 TX9 48 := ⟨by decide, rfl, by decide, tbG_in 784 (by decide +kernel) (by decide +kernel), inG9⟩
theorem lf_9_22 : LF RX9 22 9 14 RX9 TX9 48 := ⟨by decide, rfl, by decide, tbG_in 785 (by decide +kernel) (by decide +kernel), inG9⟩
theorem lf_9_25 : LF RX9 25 9 15 RX9 TX9 48 := ⟨by decide, rfl, by decide, tbG_in 786 (by decide +kernel) (by decide +kernel), inG9⟩
theorem lf_9_28 : LF RX9 28 9 16 RX9 TX9 48 := ⟨by decide, rfl, by decide, tbG_in 787 (by decide +kernel) (by decide +kernel), inG9⟩
theorem lf_9_31 : LF RX9 31 9 17 RX9 TX9 48 := ⟨by decide, rfl, by decide, tbG_in 788 (by decide +kernel) (by decide +kernel), inG9⟩
theorem lf_9_34 : LF RX9 34 9 18 RX9 TX9 48 := ⟨by decide, rfl, by decide, tbG_in 789 (by decide +kernel) (by decide +kernel), inG9⟩
theorem lf_9_37 : LF RX9 37 9 19 RX9 TX9 48 := ⟨by decide, rfl, by decide, tbG_in 790 (by decide +kernel) (by decide +kernel), inG9⟩
theorem lf_9_40 : LF RX9 40 9 20 RX9 TX9 48 := ⟨by decide, rfl, by decide, tbG_in 791 (by decide +kernel) (by decide +kernel), inG9⟩
theorem lf_9_43 : LF RX9 43 9 21 RX9 TX9 48 := ⟨by decide, rfl, by decide, tbG_in 792 (by decide +kernel) (by decide +kernel), inG9⟩
theorem lf_9_46 : LF RX9 46 9 22 RX9 TX9 48 := ⟨by decide, rfl, by decide, tbG_in 793 (by decide +kernel) (by decide +kernel), inG9⟩
theorem lf_9_49 : LF RX9 49 9 23 RX9 TX9 48 := ⟨by decide, rfl, by decide, tbG_in 794 (by decide +kernel) (by decide +kernel), inG9⟩
theorem lf_9_52 : LF RX9 52 9 24 RX9 TX9 48 := ⟨by decide, rfl, by decide, tbG_in 795 (by decide +kernel) (by decide +kernel), inG9⟩
theorem lf_9_56 : LF RX9 56 9 25 RX9 TX9 48 := ⟨by decide, rfl, by decide, tbG_in 796 (by decide +kernel) (by decide +kernel), inG9⟩
theorem lf_9_60 : LF RX9 60 9 26 RX9 TX9 48 := ⟨by decide, rfl, by decide, tbG_in 797 (by decide +kernel) (by decide +kernel), inG9⟩
theorem lf_9_63 : LF RX9 63 9 30 RX9 TX9 48 := ⟨by decide, rfl, by decide, tbG_in 801 (by decide +kernel) (by decide +kernel), inG9⟩
theorem lf_9_67 : LF RX9 67 9 32 RX9 TX9 48 := ⟨by decide, rfl, by decide, tbG_in 803 (by decide +kernel) (by decide +kernel), inG9⟩
theorem lf_9_70 : LF RX9 70 9 33 RX9 TX9 48 := ⟨by decide, rfl, by decide, tbG_in 804 (by decide +kernel) (by decide +kernel), inG9⟩
theorem lf_9_73 : LF RX9 73 9 34 RX9 TX9 48 := ⟨by decide, rfl, by decide, tbG_in 805 (by decide +kernel) (by decide +kernel), inG9⟩
theorem lf_9_76 : LF RX9 76 9 35 RX9 TX9 48 := ⟨by decide, rfl, by decide, tbG_in 806 (by decide +kernel) (by decide +kernel), inG9⟩
theorem lf_9_79 : LF RX9 79 9 36 RX9 TX9 48 := ⟨by decide, rfl, by decide, tbG_in 807 (by decide +kernel) (by decide +kernel), inG9⟩
theorem lf_9_82 : LF RX9 82 9 37 RX9 TX9 48 := ⟨by decide, rfl, by decide, tbG_in 808 (by decide +kernel) (by decide +kernel), inG9⟩
theorem lf_9_85 : LF RX9 85 9 38 RX9 TX9 48 := ⟨by decide, rfl, by decide, tbG_in 809 (by decide +kernel) (by decide +kernel), inG9⟩
theorem lf_9_88 : LF RX9 88 9 39 RX9 TX9 48 := ⟨by decide, rfl, by decide, tbG_in 810 (by decide +kernel) (by decide +kernel), inG9⟩
theorem lf_9_91 : LF RX9 91 9 40 RX9 TX9 48 := ⟨by decide, rfl, by decide, tbG_in 811 (by decide +kernel) (by decide +kernel), inG9⟩
theorem lf_9_94 : LF RX9 94 9 41 RX9 TX9 48 := ⟨by decide, rfl, by decide, tbG_in 812 (by decide +kernel) (by decide +kernel), inG9⟩
theorem lf_9_97 : LF RX9 97 9 42 RX9 TX9 48 := ⟨by decide, rfl, by decide, tbG_in 813 (by decide +kernel) (by decide +kernel), inG9⟩
theorem lf_9_100 : LF RX9 100 9 45 RX9 TX9 48 := ⟨by decide, rfl, by decide, tbG_in 816 (by decide +kernel) (by decide +kernel), inG9⟩
theorem lf_9_103 : LF RX9 103 9 46 RX9 TX9 48 := ⟨by decide, rfl, by decide, tbG_in 817 (by decide +kernel) (by decide +kernel), inG9⟩
theorem lf_9_106 : LF RX9 106 9 47 RX9 TX9 48 := ⟨by decide, rfl, by decide, tbG_in 818 (by decide +kernel) (by decide +kernel), inG9⟩
theorem lf_9_113 : LF RX9 113 9 9 RX9 TX9 48 := ⟨by decide, rfl, by decide, tbG_in 780 (by decide +kernel) (by decide +kernel), inG9⟩
theorem lf_9_116 : LF RX9 116 9 27 RX9 TX9 48 := ⟨by decide, rfl, by decide, tbG_in 798 (by decide +kernel) (by decide +kernel), inG9⟩
theorem lf_9_123 : LF RX9 123 9 29 RX9 TX9 48 := ⟨by decide, rfl, by decide, tbG_in 800 (by decide +kernel) (by decide +kernel), inG9⟩
theorem lf_9_126 : LF RX9 126 9 28 RX9 TX9 48 := ⟨by decide, rfl, by decide, tbG_in 799 (by decide +kernel) (by decide +kernel), inG9⟩
theorem lf_9_132 : LF RX9 132 9 43 RX9 TX9 48 := ⟨by decide, rfl, by decide, tbG_in 814 (by decide +kernel) (by decide +kernel), inG9⟩
theorem lf_9_139 : LF RX9 139 9 44 RX9 TX9 48 := ⟨by decide, rfl, by decide, tbG_in 815 (by decide +kernel) (by decide +kernel), inG9⟩
theorem lf_9_188 : LF RX9 188 9 31 RX9 TX9 48 := ⟨by decide, rfl, by decide, tbG_in 802 (by decide +kernel) (by decide +kernel), inG9⟩
theorem lf_9_194 : LF RX9 194 9 0 RX9 TX9 48 := ⟨by decide, rfl, by decide, tbG_in 771 (by decide +kernel) (by decide +kernel), inG9⟩
theorem lf_9_222 : LF RX9 222 9 1 RX9 TX9 48 := ⟨by decide, rfl, by decide, tbG_in 772 (by decide +kernel) (by decide +kernel), inG9⟩
theorem lf_9_237 : LF RX9 237 9 2 RX9 TX9 48 := ⟨by decide, rfl, by decide, tbG_in 773 (by decide +kernel) (by decide +kernel), inG9⟩
theorem lf_9_240 : LF RX9 240 9 3 RX9 TX9 48 := ⟨by decide, rfl, by decide, tbG_in 774 (by decide +kernel) (by decide +kernel), inG9⟩
theorem lf_9_246 : LF RX9 246 9 8 RX9 TX9 48 := ⟨by decide, rfl, by decide, tbG_in 779 (by decide +kernel) (by decide +kernel), inG9⟩
theorem lf_9_257 : LF RX9 257 9 4 RX9 TX9 48 := ⟨by decide, rfl, by decide, tbG_in 775 (by decide +kernel) (by decide +kernel), inG9⟩
theorem lf_9_260 : LF RX9 260 9 5 RX9 TX9 48 := ⟨by decide, rfl, by decide, tbG_in 776 (by decide +kernel) (by decide +kernel), inG9⟩
theorem lf_9_263 : LF RX9 263 9 6 RX9 TX9 48 := ⟨by decide, rfl, by decide, tbG_in 777 (by decide +kernel) (by decide +kernel), inG9⟩
theorem lf_9_266 : LF RX9 266 9 7 RX9 TX9 48 := ⟨by decide, rfl, by decide, tbG_in 778 (by decide +kernel) (by decide +kernel), inG9⟩
theorem lp_0_0 : LPf 0 TX0 7 .int := ⟨⟨tyX0, tyX0_ok⟩, nmX0, by decide +kernel⟩
theorem lp_0_1 : LPf 1 TX0 7 .int := ⟨⟨tyX0, tyX0_ok⟩, nmX0, by decide +kernel⟩
theorem lp_0_2 : LPf 2 TX0 7 .int := ⟨⟨tyX0, tyX0_ok⟩, nmX0, by decide +kernel⟩
theorem lp_0_3 : LPf 3 TX0 7 .int := ⟨⟨tyX0, tyX0_ok⟩, nmX0, by decide +kernel⟩
theorem lp_0_4 : LPf 4 TX0 7 .int := ⟨⟨tyX0, tyX0_ok⟩, nmX0, by decide +kernel⟩
theorem lp_0_5 : LPf 5 TX0 7 .int := ⟨⟨tyX0, tyX0_ok⟩, nmX0, by decide +kernel⟩
theorem lp_0_6 : LPf 6 TX0 7 .int := ⟨⟨tyX0, tyX0_ok⟩, nmX0, by decide +kernel⟩
theorem lp_1_0 : LPf 0 TX1 15 .int := ⟨⟨tyX1, tyX1_ok⟩, nmX1, by decide +kernel⟩
theorem lp_1_1 : LPf 1 TX1 15 .int := ⟨⟨tyX1, tyX1_ok⟩, nmX1, by decide +kernel⟩
theorem lp_1_2 : LPf 2 TX1 15 .int := ⟨⟨tyX1, tyX1_ok⟩, nmX1, by decide +kernel⟩
theorem lp_1_3 : LPf 3 TX1 15 .int := ⟨⟨tyX1, tyX1_ok⟩, nmX1, by decide +kernel⟩
theorem lp_1_4 : LPf 4 TX1 15 .int := ⟨⟨tyX1, tyX1_ok⟩, nmX1, by decide +kernel⟩
theorem lp_1_5 : LPf 5 TX1 15 (.array .int) := ⟨⟨tyX1, tyX1_ok⟩, nmX1, by decide +kernel⟩
theorem lp_1_6 : LPf 6 TX1 15 (.array .int) := ⟨⟨tyX1, tyX1_ok⟩, nmX1, by decide +kernel⟩
theorem lp_1_7 : LPf 7 TX1 15 (.array .int) := ⟨⟨tyX1, tyX1_ok⟩, nmX1, by decide +kernel⟩
theorem lp_1_8 : LPf 8 TX1 15 (.array .int) := ⟨⟨tyX1, tyX1_ok⟩, nmX1, by decide +kernel⟩
theorem lp_1_9 : LPf 9 TX1 15 .int := ⟨⟨tyX1, tyX1_ok⟩, nmX1, by decide +kernel⟩
theorem lp_1_10 : LPf 10 TX1 15 (.array .int) := ⟨⟨tyX1, tyX1_ok⟩, nmX1, by decide +kernel⟩
theorem lp_1_11 : LPf 11 TX1 15 (.array .int) := ⟨⟨tyX1, tyX1_ok⟩, nmX1, by decide +kernel⟩
theorem lp_1_12 : LPf 12 TX1 15 (.array .int) := ⟨⟨tyX1, tyX1_ok⟩, nmX1, by decide +kernel⟩
theorem lp_1_13 : LPf 13 TX1 15 (.array .int) := ⟨⟨tyX1, tyX1_ok⟩, nmX1, by decide +kernel⟩
theorem lp_1_14 : LPf 14 TX1 15 (.array .int) := ⟨⟨tyX1, tyX1_ok⟩, nmX1, by decide +kernel⟩
theorem lp_2_0 : LPf 0 TX2 2 (.object "PeatBog$Tokens") := ⟨⟨tyX2, tyX2_ok⟩, nmX2, by decide +kernel⟩
theorem lp_2_1 : LPf 1 TX2 2 .int := ⟨⟨tyX2, tyX2_ok⟩, nmX2, by decide +kernel⟩
theorem lp_3_0 : LPf 0 TX3 8 (.array .int) := ⟨⟨tyX3, tyX3_ok⟩, nmX3, by decide +kernel⟩
theorem lp_3_1 : LPf 1 TX3 8 (.array .int) := ⟨⟨tyX3, tyX3_ok⟩, nmX3, by decide +kernel⟩
theorem lp_3_2 : LPf 2 TX3 8 (.array .int) := ⟨⟨tyX3, tyX3_ok⟩, nmX3, by decide +kernel⟩
theorem lp_3_3 : LPf 3 TX3 8 (.array .int) := ⟨⟨tyX3, tyX3_ok⟩, nmX3, by decide +kernel⟩
theorem lp_3_4 : LPf 4 TX3 8 (.array .int) := ⟨⟨tyX3, tyX3_ok⟩, nmX3, by decide +kernel⟩
theorem lp_3_5 : LPf 5 TX3 8 .int := ⟨⟨tyX3, tyX3_ok⟩, nmX3, by decide +kernel⟩
theorem lp_3_6 : LPf 6 TX3 8 .int := ⟨⟨tyX3, tyX3_ok⟩, nmX3, by decide +kernel⟩
theorem lp_3_7 : LPf 7 TX3 8 .int := ⟨⟨tyX3, tyX3_ok⟩, nmX3, by decide +kernel⟩
theorem lp_4_0 : LPf 0 TX4 5 .int := ⟨⟨tyX4, tyX4_ok⟩, nmX4, by decide +kernel⟩
theorem lp_4_1 : LPf 1 TX4 5 .int := ⟨⟨tyX4, tyX4_ok⟩, nmX4, by decide +kernel⟩
theorem lp_4_2 : LPf 2 TX4 5 .int := ⟨⟨tyX4, tyX4_ok⟩, nmX4, by decide +kernel⟩
theorem lp_4_3 : LPf 3 TX4 5 .int := ⟨⟨tyX4, tyX4_ok⟩, nmX4, by decide +kernel⟩
theorem lp_4_4 : LPf 4 TX4 5 .int := ⟨⟨tyX4, tyX4_ok⟩, nmX4, by decide +kernel⟩
theorem lp_5_0 : LPf 0 TX5 9 .int := ⟨⟨tyX5, tyX5_ok⟩, nmX5, by decide +kernel⟩
theorem lp_5_1 : LPf 1 TX5 9 .int := ⟨⟨tyX5, tyX5_ok⟩, nmX5, by decide +kernel⟩
theorem lp_5_2 : LPf 2 TX5 9 .int := ⟨⟨tyX5, tyX5_ok⟩, nmX5, by decide +kernel⟩
theorem lp_5_3 : LPf 3 TX5 9 .int := ⟨⟨tyX5, tyX5_ok⟩, nmX5, by decide +kernel⟩
theorem lp_5_4 : LPf 4 TX5 9 .boolean := ⟨⟨tyX5, tyX5_ok⟩, nmX5, by decide +kernel⟩
theorem lp_5_5 : LPf 5 TX5 9 .int := ⟨⟨tyX5, tyX5_ok⟩, nmX5, by decide +kernel⟩
theorem lp_5_6 : LPf 6 TX5 9 .int := ⟨⟨tyX5, tyX5_ok⟩, nmX5, by decide +kernel⟩
theorem lp_5_7 : LPf 7 TX5 9 .int := ⟨⟨tyX5, tyX5_ok⟩, nmX5, by decide +kernel⟩
theorem lp_5_8 : LPf 8 TX5 9 .boolean := ⟨⟨tyX5, tyX5_ok⟩, nmX5, by decide +kernel⟩
theorem lp_6_0 : LPf 0 TX6 2 (.array .byte) := ⟨⟨tyX6, tyX6_ok⟩, nmX6, by decide +kernel⟩
theorem lp_6_1 : LPf 1 TX6 2 .int := ⟨⟨tyX6, tyX6_ok⟩, nmX6, by decide +kernel⟩
theorem lp_7_0 : LPf 0 TX7 6 (.object "PeatBog$Tape") := ⟨⟨tyX7, tyX7_ok⟩, nmX7, by decide +kernel⟩
theorem lp_7_1 : LPf 1 TX7 6 .int := ⟨⟨tyX7, tyX7_ok⟩, nmX7, by decide +kernel⟩
theorem lp_7_2 : LPf 2 TX7 6 (.array .int) := ⟨⟨tyX7, tyX7_ok⟩, nmX7, by decide +kernel⟩
theorem lp_7_3 : LPf 3 TX7 6 (.array .int) := ⟨⟨tyX7, tyX7_ok⟩, nmX7, by decide +kernel⟩
theorem lp_7_4 : LPf 4 TX7 6 (.array .int) := ⟨⟨tyX7, tyX7_ok⟩, nmX7, by decide +kernel⟩
theorem lp_7_5 : LPf 5 TX7 6 .int := ⟨⟨tyX7, tyX7_ok⟩, nmX7, by decide +kernel⟩
theorem lp_8_0 : LPf 0 TX8 15 (.array (.object "PeatBog$Bay")) := ⟨⟨tyX8, tyX8_ok⟩, nmX8, by decide +kernel⟩
theorem lp_8_1 : LPf 1 TX8 15 (.array (.object "PeatBog$Stack")) := ⟨⟨tyX8, tyX8_ok⟩, nmX8, by decide +kernel⟩
theorem lp_8_2 : LPf 2 TX8 15 (.array (.object "PeatBog$Law")) := ⟨⟨tyX8, tyX8_ok⟩, nmX8, by decide +kernel⟩
theorem lp_8_3 : LPf 3 TX8 15 (.object "PeatBog$Law") := ⟨⟨tyX8, tyX8_ok⟩, nmX8, by decide +kernel⟩
theorem lp_8_4 : LPf 4 TX8 15 (.object "PeatBog$PowerHouse") := ⟨⟨tyX8, tyX8_ok⟩, nmX8, by decide +kernel⟩
theorem lp_8_5 : LPf 5 TX8 15 (.object "PeatBog$Tape") := ⟨⟨tyX8, tyX8_ok⟩, nmX8, by decide +kernel⟩
theorem lp_8_6 : LPf 6 TX8 15 (.object "PeatBog$LawReader") := ⟨⟨tyX8, tyX8_ok⟩, nmX8, by decide +kernel⟩
theorem lp_8_7 : LPf 7 TX8 15 (.object "PeatBog$Laying") := ⟨⟨tyX8, tyX8_ok⟩, nmX8, by decide +kernel⟩
theorem lp_8_8 : LPf 8 TX8 15 .int := ⟨⟨tyX8, tyX8_ok⟩, nmX8, by decide +kernel⟩
theorem lp_8_9 : LPf 9 TX8 15 .int := ⟨⟨tyX8, tyX8_ok⟩, nmX8, by decide +kernel⟩
theorem lp_8_10 : LPf 10 TX8 15 .int := ⟨⟨tyX8, tyX8_ok⟩, nmX8, by decide +kernel⟩
theorem lp_8_11 : LPf 11 TX8 15 .int := ⟨⟨tyX8, tyX8_ok⟩, nmX8, by decide +kernel⟩
theorem lp_8_12 : LPf 12 TX8 15 .int := ⟨⟨tyX8, tyX8_ok⟩, nmX8, by decide +kernel⟩
theorem lp_8_13 : LPf 13 TX8 15 .int := ⟨⟨tyX8, tyX8_ok⟩, nmX8, by decide +kernel⟩
theorem lp_8_14 : LPf 14 TX8 15 .int := ⟨⟨tyX8, tyX8_ok⟩, nmX8, by decide +kernel⟩
theorem lp_9_0 : LPf 0 TX9 48 .int := ⟨⟨tyX9, tyX9_ok⟩, nmX9, by decide +kernel⟩
theorem lp_9_1 : LPf 1 TX9 48 .int := ⟨⟨tyX9, tyX9_ok⟩, nmX9, by decide +kernel⟩
theorem lp_9_2 : LPf 2 TX9 48 .int := ⟨⟨tyX9, tyX9_ok⟩, nmX9, by decide +kernel⟩
theorem lp_9_3 : LPf 3 TX9 48 .int := ⟨⟨tyX9, tyX9_ok⟩, nmX9, by decide +kernel⟩
theorem lp_9_4 : LPf 4 TX9 48 .int := ⟨⟨tyX9, tyX9_ok⟩, nmX9, by decide +kernel⟩
theorem lp_9_5 : LPf 5 TX9 48 .int := ⟨⟨tyX9, tyX9_ok⟩, nmX9, by decide +kernel⟩
theorem lp_9_6 : LPf 6 TX9 48 .int := ⟨⟨tyX9, tyX9_ok⟩, nmX9, by decide +kernel⟩
theorem lp_9_7 : LPf 7 TX9 48 .int := ⟨⟨tyX9, tyX9_ok⟩, nmX9, by decide +kernel⟩
theorem lp_9_8 : LPf 8 TX9 48 .int := ⟨⟨tyX9, tyX9_ok⟩, nmX9, by decide +kernel⟩
theorem lp_9_9 : LPf 9 TX9 48 .int := ⟨⟨tyX9, tyX9_ok⟩, nmX9, by decide +kernel⟩
theorem lp_9_10 : LPf 10 TX9 48 (.array .int) := ⟨⟨tyX9, tyX9_ok⟩, nmX9, by decide +kernel⟩
theorem lp_9_11 : LPf 11 TX9 48 (.array .int) := ⟨⟨tyX9, tyX9_ok⟩, nmX9, by decide +kernel⟩
theorem lp_9_12 : LPf 12 TX9 48 (.array .int) := ⟨⟨tyX9, tyX9_ok⟩, nmX9, by decide +kernel⟩
theorem lp_9_13 : LPf 13 TX9 48 (.array .int) := ⟨⟨tyX9, tyX9_ok⟩, nmX9, by decide +kernel⟩
theorem lp_9_14 : LPf 14 TX9 48 (.array .int) := ⟨⟨tyX9, tyX9_ok⟩, nmX9, by decide +kernel⟩
theorem lp_9_15 : LPf 15 TX9 48 (.array .int) := ⟨⟨tyX9, tyX9_ok⟩, nmX9, by decide +kernel⟩
theorem lp_9_16 : LPf 16 TX9 48 (.array .int) := ⟨⟨tyX9, tyX9_ok⟩, nmX9, by decide +kernel⟩
theorem lp_9_17 : LPf 17 TX9 48 (.array .int) := ⟨⟨tyX9, tyX9_ok⟩, nmX9, by decide +kernel⟩
theorem lp_9_18 : LPf 18 TX9 48 (.array .int) := ⟨⟨tyX9, tyX9_ok⟩, nmX9, by decide +kernel⟩
theorem lp_9_19 : LPf 19 TX9 48 (.array .int) := ⟨⟨tyX9, tyX9_ok⟩, nmX9, by decide +kernel⟩
theorem lp_9_20 : LPf 20 TX9 48 (.array .int) := ⟨⟨tyX9, tyX9_ok⟩, nmX9, by decide +kernel⟩
theorem lp_9_21 : LPf 21 TX9 48 (.array .int) := ⟨⟨tyX9, tyX9_ok⟩, nmX9, by decide +kernel⟩
theorem lp_9_22 : LPf 22 TX9 48 (.array .int) := ⟨⟨tyX9, tyX9_ok⟩, nmX9, by decide +kernel⟩
theorem lp_9_23 : LPf 23 TX9 48 (.array .int) := ⟨⟨tyX9, tyX9_ok⟩, nmX9, by decide +kernel⟩
theorem lp_9_24 : LPf 24 TX9 48 (.array .boolean) := ⟨⟨tyX9, tyX9_ok⟩, nmX9, by decide +kernel⟩
theorem lp_9_25 : LPf 25 TX9 48 (.array .byte) := ⟨⟨tyX9, tyX9_ok⟩, nmX9, by decide +kernel⟩
theorem lp_9_26 : LPf 26 TX9 48 (.array .byte) := ⟨⟨tyX9, tyX9_ok⟩, nmX9, by decide +kernel⟩
theorem lp_9_27 : LPf 27 TX9 48 .int := ⟨⟨tyX9, tyX9_ok⟩, nmX9, by decide +kernel⟩
theorem lp_9_28 : LPf 28 TX9 48 .int := ⟨⟨tyX9, tyX9_ok⟩, nmX9, by decide +kernel⟩
theorem lp_9_29 : LPf 29 TX9 48 .int := ⟨⟨tyX9, tyX9_ok⟩, nmX9, by decide +kernel⟩
theorem lp_9_30 : LPf 30 TX9 48 .int := ⟨⟨tyX9, tyX9_ok⟩, nmX9, by decide +kernel⟩
theorem lp_9_31 : LPf 31 TX9 48 .int := ⟨⟨tyX9, tyX9_ok⟩, nmX9, by decide +kernel⟩
theorem lp_9_32 : LPf 32 TX9 48 (.array .int) := ⟨⟨tyX9, tyX9_ok⟩, nmX9, by decide +kernel⟩
theorem lp_9_33 : LPf 33 TX9 48 (.array .int) := ⟨⟨tyX9, tyX9_ok⟩, nmX9, by decide +kernel⟩
theorem lp_9_34 : LPf 34 TX9 48 (.array .int) := ⟨⟨tyX9, tyX9_ok⟩, nmX9, by decide +kernel⟩
theorem lp_9_35 : LPf 35 TX9 48 (.array .int) := ⟨⟨tyX9, tyX9_ok⟩, nmX9, by decide +kernel⟩
theorem lp_9_36 : LPf 36 TX9 48 (.array .int) := ⟨⟨tyX9, tyX9_ok⟩, nmX9, by decide +kernel⟩
theorem lp_9_37 : LPf 37 TX9 48 (.array .int) := ⟨⟨tyX9, tyX9_ok⟩, nmX9, by decide +kernel⟩
theorem lp_9_38 : LPf 38 TX9 48 (.array .int) := ⟨⟨tyX9, tyX9_ok⟩, nmX9, by decide +kernel⟩
theorem lp_9_39 : LPf 39 TX9 48 (.array .int) := ⟨⟨tyX9, tyX9_ok⟩, nmX9, by decide +kernel⟩
theorem lp_9_40 : LPf 40 TX9 48 (.array .int) := ⟨⟨tyX9, tyX9_ok⟩, nmX9, by decide +kernel⟩
theorem lp_9_41 : LPf 41 TX9 48 (.array .int) := ⟨⟨tyX9, tyX9_ok⟩, nmX9, by decide +kernel⟩
theorem lp_9_42 : LPf 42 TX9 48 (.array .int) := ⟨⟨tyX9, tyX9_ok⟩, nmX9, by decide +kernel⟩
theorem lp_9_43 : LPf 43 TX9 48 .int := ⟨⟨tyX9, tyX9_ok⟩, nmX9, by decide +kernel⟩
theorem lp_9_44 : LPf 44 TX9 48 .int := ⟨⟨tyX9, tyX9_ok⟩, nmX9, by decide +kernel⟩
theorem lp_9_45 : LPf 45 TX9 48 (.array .int) := ⟨⟨tyX9, tyX9_ok⟩, nmX9, by decide +kernel⟩
theorem lp_9_46 : LPf 46 TX9 48 (.array .int) := ⟨⟨tyX9, tyX9_ok⟩, nmX9, by decide +kernel⟩
theorem lp_9_47 : LPf 47 TX9 48 (.array .boolean) := ⟨⟨tyX9, tyX9_ok⟩, nmX9, by decide +kernel⟩
theorem ml_X8_1 : Cond.methodLink RX8 1 objectInit ∈ tbG := tbG_in 62 (by decide +kernel) (by decide +kernel)
theorem lk_X8_27 : LK RX8 27 yX1_init cX1_init 1 none 0 := ⟨tbG_in 74 (by decide +kernel) (by decide +kernel), ini1, by decide +kernel⟩
theorem nl_X8_27 : (RX8, 27, yX1_init, "PeatBog") ∈ nestL := by decide +kernel
theorem ins_X1_init : Cond.instanceMethod yX1_init ∈ tbG := tbG_in 73 (by decide +kernel) (by decide +kernel)
theorem lk_X8_34 : LK RX8 34 yX4_init cX4_init 1 none 0 := ⟨tbG_in 133 (by decide +kernel) (by decide +kernel), ini4, by decide +kernel⟩
theorem nl_X8_34 : (RX8, 34, yX4_init, "PeatBog") ∈ nestL := by decide +kernel
theorem ins_X4_init : Cond.instanceMethod yX4_init ∈ tbG := tbG_in 132 (by decide +kernel) (by decide +kernel)
theorem lk_X8_41 : LK RX8 41 yX6_init cX6_init 1 none 0 := ⟨tbG_in 160 (by decide +kernel) (by decide +kernel), ini6, by decide +kernel⟩
theorem nl_X8_41 : (RX8, 41, yX6_init, "PeatBog") ∈ nestL := by decide +kernel
theorem ins_X6_init : Cond.instanceMethod yX6_init ∈ tbG := tbG_in 159 (by decide +kernel) (by decide +kernel)
theorem lk_X8_48 : LK RX8 48 yX2_init cX2_init 2 none 1 := ⟨tbG_in 175 (by decide +kernel) (by decide +kernel), ini2, by decide +kernel⟩
theorem ml_X8_48 : Cond.methodLink RX8 48 yX2_init ∈ tbG := tbG_in 173 (by decide +kernel) (by decide +kernel)
theorem ins_X2_init : Cond.instanceMethod yX2_init ∈ tbG := tbG_in 174 (by decide +kernel) (by decide +kernel)
theorem lk_X8_57 : LK RX8 57 yX3_init cX3_init 1 none 0 := ⟨tbG_in 213 (by decide +kernel) (by decide +kernel), ini3, by decide +kernel⟩
theorem nl_X8_57 : (RX8, 57, yX3_init, "PeatBog") ∈ nestL := by decide +kernel
theorem ins_X3_init : Cond.instanceMethod yX3_init ∈ tbG := tbG_in 212 (by decide +kernel) (by decide +kernel)
theorem lk_X8_84 : LK RX8 84 yX0_init cX0_init 1 none 0 := ⟨tbG_in 244 (by decide +kernel) (by decide +kernel), ini0, by decide +kernel⟩
theorem nl_X8_84 : (RX8, 84, yX0_init, "PeatBog") ∈ nestL := by decide +kernel
theorem ins_X0_init : Cond.instanceMethod yX0_init ∈ tbG := tbG_in 243 (by decide +kernel) (by decide +kernel)
theorem lk_X8_85 : LK RX8 85 yX5_init cX5_init 1 none 0 := ⟨tbG_in 278 (by decide +kernel) (by decide +kernel), ini5, by decide +kernel⟩
theorem nl_X8_85 : (RX8, 85, yX5_init, "PeatBog") ∈ nestL := by decide +kernel
theorem ins_X5_init : Cond.instanceMethod yX5_init ∈ tbG := tbG_in 277 (by decide +kernel) (by decide +kernel)
theorem lk_X8_86 : LK RX8 86 yX8_isBay cX8_isBay 1 (some .boolean) 1 := ⟨tbG_in 368 (by decide +kernel) (by decide +kernel), ini8, by decide +kernel⟩
theorem ml_X8_86 : Cond.methodLink RX8 86 yX8_isBay ∈ tbG := tbG_in 366 (by decide +kernel) (by decide +kernel)
theorem sta_X8_isBay : Cond.static yX8_isBay ∈ tbG := tbG_in 367 (by decide +kernel) (by decide +kernel)
theorem lk_X8_90 : LK RX8 90 yX8_within cX8_within 3 (some .boolean) 3 := ⟨tbG_in 371 (by decide +kernel) (by decide +kernel), ini8, by decide +kernel⟩
theorem ml_X8_90 : Cond.methodLink RX8 90 yX8_within ∈ tbG := tbG_in 369 (by decide +kernel) (by decide +kernel)
theorem sta_X8_within : Cond.static yX8_within ∈ tbG := tbG_in 370 (by decide +kernel) (by decide +kernel)
theorem lk_X8_94 : LK RX8 94 yX0_lies cX0_lies 1 (some .boolean) 0 := ⟨tbG_in 375 (by decide +kernel) (by decide +kernel), ini0, by decide +kernel⟩
theorem ml_X8_94 : Cond.methodLink RX8 94 yX0_lies ∈ tbG := tbG_in 372 (by decide +kernel) (by decide +kernel)
theorem ins_X0_lies : Cond.instanceMethod yX0_lies ∈ tbG := tbG_in 373 (by decide +kernel) (by decide +kernel)
theorem sel_X0_lies : Cond.selects yX0_lies.cls yX0_lies yX0_lies ∈ tbG := tbG_in 374 (by decide +kernel) (by decide +kernel)
theorem lk_X8_101 : LK RX8 101 yX8_lawOn cX8_lawOn 3 (some (.object "PeatBog$Law")) 1 := ⟨tbG_in 383 (by decide +kernel) (by decide +kernel), ini8, by decide +kernel⟩
theorem ml_X8_101 : Cond.methodLink RX8 101 yX8_lawOn ∈ tbG := tbG_in 380 (by decide +kernel) (by decide +kernel)
theorem ins_X8_lawOn : Cond.instanceMethod yX8_lawOn ∈ tbG := tbG_in 382 (by decide +kernel) (by decide +kernel)
theorem sel_X8_lawOn : Cond.selects yX8_lawOn.cls yX8_lawOn yX8_lawOn ∈ tbG := tbG_in 0 (by decide +kernel) (by decide +kernel)
theorem lk_X8_105 : LK RX8 105 yX1_closes cX1_closes 5 (some .boolean) 2 := ⟨tbG_in 387 (by decide +kernel) (by decide +kernel), ini1, by decide +kernel⟩
theorem ml_X8_105 : Cond.methodLink RX8 105 yX1_closes ∈ tbG := tbG_in 384 (by decide +kernel) (by decide +kernel)
theorem ins_X1_closes : Cond.instanceMethod yX1_closes ∈ tbG := tbG_in 385 (by decide +kernel) (by decide +kernel)
theorem sel_X1_closes : Cond.selects yX1_closes.cls yX1_closes yX1_closes ∈ tbG := tbG_in 386 (by decide +kernel) (by decide +kernel)
theorem lk_X8_112 : LK RX8 112 yX0_loosen cX0_loosen 2 none 1 := ⟨tbG_in 396 (by decide +kernel) (by decide +kernel), ini0, by decide +kernel⟩
theorem ml_X8_112 : Cond.methodLink RX8 112 yX0_loosen ∈ tbG := tbG_in 393 (by decide +kernel) (by decide +kernel)
theorem ins_X0_loosen : Cond.instanceMethod yX0_loosen ∈ tbG := tbG_in 394 (by decide +kernel) (by decide +kernel)
theorem sel_X0_loosen : Cond.selects yX0_loosen.cls yX0_loosen yX0_loosen ∈ tbG := tbG_in 395 (by decide +kernel) (by decide +kernel)
theorem lk_X8_119 : LK RX8 119 yX0_takesProbe cX0_takesProbe 1 (some .boolean) 0 := ⟨tbG_in 408 (by decide +kernel) (by decide +kernel), ini0, by decide +kernel⟩
theorem ml_X8_119 : Cond.methodLink RX8 119 yX0_takesProbe ∈ tbG := tbG_in 405 (by decide +kernel) (by decide +kernel)
theorem ins_X0_takesProbe : Cond.instanceMethod yX0_takesProbe ∈ tbG := tbG_in 406 (by decide +kernel) (by decide +kernel)
theorem sel_X0_takesProbe : Cond.selects yX0_takesProbe.cls yX0_takesProbe yX0_takesProbe ∈ tbG := tbG_in 407 (by decide +kernel) (by decide +kernel)
theorem lk_X8_122 : LK RX8 122 yX0_addProbe cX0_addProbe 2 (some .int) 1 := ⟨tbG_in 413 (by decide +kernel) (by decide +kernel), ini0, by decide +kernel⟩
theorem ml_X8_122 : Cond.methodLink RX8 122 yX0_addProbe ∈ tbG := tbG_in 410 (by decide +kernel) (by decide +kernel)
theorem ins_X0_addProbe : Cond.instanceMethod yX0_addProbe ∈ tbG := tbG_in 411 (by decide +kernel) (by decide +kernel)
theorem sel_X0_addProbe : Cond.selects yX0_addProbe.cls yX0_addProbe yX0_addProbe ∈ tbG := tbG_in 412 (by decide +kernel) (by decide +kernel)
theorem ml_X8_129 : Cond.methodLink RX8 129 Lib.Math.abs.name ∈ tbG := tbG_in 425 (by decide +kernel) (by decide +kernel)
theorem lk_X8_143 : LK RX8 143 yX8_bars cX8_bars 3 (some .int) 1 := ⟨tbG_in 424 (by decide +kernel) (by decide +kernel), ini8, by decide +kernel⟩
theorem ml_X8_143 : Cond.methodLink RX8 143 yX8_bars ∈ tbG := tbG_in 432 (by decide +kernel) (by decide +kernel)
theorem ins_X8_bars : Cond.instanceMethod yX8_bars ∈ tbG := tbG_in 422 (by decide +kernel) (by decide +kernel)
theorem sel_X8_bars : Cond.selects yX8_bars.cls yX8_bars yX8_bars ∈ tbG := tbG_in 423 (by decide +kernel) (by decide +kernel)
theorem lk_X8_146 : LK RX8 146 yX8_isStack cX8_isStack 2 (some .boolean) 1 := ⟨tbG_in 436 (by decide +kernel) (by decide +kernel), ini8, by decide +kernel⟩
theorem ml_X8_146 : Cond.methodLink RX8 146 yX8_isStack ∈ tbG := tbG_in 433 (by decide +kernel) (by decide +kernel)
theorem ins_X8_isStack : Cond.instanceMethod yX8_isStack ∈ tbG := tbG_in 435 (by decide +kernel) (by decide +kernel)
theorem sel_X8_isStack : Cond.selects yX8_isStack.cls yX8_isStack yX8_isStack ∈ tbG := tbG_in 2 (by decide +kernel) (by decide +kernel)
theorem lk_X8_149 : LK RX8 149 yX5_takesPeat cX5_takesPeat 1 (some .boolean) 0 := ⟨tbG_in 440 (by decide +kernel) (by decide +kernel), ini5, by decide +kernel⟩
theorem ml_X8_149 : Cond.methodLink RX8 149 yX5_takesPeat ∈ tbG := tbG_in 437 (by decide +kernel) (by decide +kernel)
theorem ins_X5_takesPeat : Cond.instanceMethod yX5_takesPeat ∈ tbG := tbG_in 438 (by decide +kernel) (by decide +kernel)
theorem sel_X5_takesPeat : Cond.selects yX5_takesPeat.cls yX5_takesPeat yX5_takesPeat ∈ tbG := tbG_in 439 (by decide +kernel) (by decide +kernel)
theorem lk_X8_158 : LK RX8 158 yX5_add cX5_add 4 none 2 := ⟨tbG_in 444 (by decide +kernel) (by decide +kernel), ini5, by decide +kernel⟩
theorem ml_X8_158 : Cond.methodLink RX8 158 yX5_add ∈ tbG := tbG_in 441 (by decide +kernel) (by decide +kernel)
theorem ins_X5_add : Cond.instanceMethod yX5_add ∈ tbG := tbG_in 442 (by decide +kernel) (by decide +kernel)
theorem sel_X5_add : Cond.selects yX5_add.cls yX5_add yX5_add ∈ tbG := tbG_in 443 (by decide +kernel) (by decide +kernel)
theorem lk_X8_162 : LK RX8 162 yX0_clear cX0_clear 1 none 0 := ⟨tbG_in 448 (by decide +kernel) (by decide +kernel), ini0, by decide +kernel⟩
theorem ml_X8_162 : Cond.methodLink RX8 162 yX0_clear ∈ tbG := tbG_in 445 (by decide +kernel) (by decide +kernel)
theorem ins_X0_clear : Cond.instanceMethod yX0_clear ∈ tbG := tbG_in 446 (by decide +kernel) (by decide +kernel)
theorem sel_X0_clear : Cond.selects yX0_clear.cls yX0_clear yX0_clear ∈ tbG := tbG_in 447 (by decide +kernel) (by decide +kernel)
theorem lk_X8_171 : LK RX8 171 yX0_weather cX0_weather 6 none 3 := ⟨tbG_in 468 (by decide +kernel) (by decide +kernel), ini0, by decide +kernel⟩
theorem ml_X8_171 : Cond.methodLink RX8 171 yX0_weather ∈ tbG := tbG_in 465 (by decide +kernel) (by decide +kernel)
theorem ins_X0_weather : Cond.instanceMethod yX0_weather ∈ tbG := tbG_in 466 (by decide +kernel) (by decide +kernel)
theorem sel_X0_weather : Cond.selects yX0_weather.cls yX0_weather yX0_weather ∈ tbG := tbG_in 467 (by decide +kernel) (by decide +kernel)
theorem lk_X8_175 : LK RX8 175 yX5_glow cX5_glow 4 (some .int) 2 := ⟨tbG_in 475 (by decide +kernel) (by decide +kernel), ini5, by decide +kernel⟩
theorem ml_X8_175 : Cond.methodLink RX8 175 yX5_glow ∈ tbG := tbG_in 472 (by decide +kernel) (by decide +kernel)
theorem ins_X5_glow : Cond.instanceMethod yX5_glow ∈ tbG := tbG_in 473 (by decide +kernel) (by decide +kernel)
theorem sel_X5_glow : Cond.selects yX5_glow.cls yX5_glow yX5_glow ∈ tbG := tbG_in 474 (by decide +kernel) (by decide +kernel)
theorem lk_X8_179 : LK RX8 179 yX4_takeWanted cX4_takeWanted 6 none 2 := ⟨tbG_in 481 (by decide +kernel) (by decide +kernel), ini4, by decide +kernel⟩
theorem ml_X8_179 : Cond.methodLink RX8 179 yX4_takeWanted ∈ tbG := tbG_in 478 (by decide +kernel) (by decide +kernel)
theorem ins_X4_takeWanted : Cond.instanceMethod yX4_takeWanted ∈ tbG := tbG_in 479 (by decide +kernel) (by decide +kernel)
theorem sel_X4_takeWanted : Cond.selects yX4_takeWanted.cls yX4_takeWanted yX4_takeWanted ∈ tbG := tbG_in 480 (by decide +kernel) (by decide +kernel)
theorem lk_X8_183 : LK RX8 183 yX8_applyLaw cX8_applyLaw 5 none 1 := ⟨tbG_in 486 (by decide +kernel) (by decide +kernel), ini8, by decide +kernel⟩
theorem ml_X8_183 : Cond.methodLink RX8 183 yX8_applyLaw ∈ tbG := tbG_in 483 (by decide +kernel) (by decide +kernel)
theorem ins_X8_applyLaw : Cond.instanceMethod yX8_applyLaw ∈ tbG := tbG_in 485 (by decide +kernel) (by decide +kernel)
theorem sel_X8_applyLaw : Cond.selects yX8_applyLaw.cls yX8_applyLaw yX8_applyLaw ∈ tbG := tbG_in 3 (by decide +kernel) (by decide +kernel)
theorem lk_X8_187 : LK RX8 187 yX6_holdsMore cX6_holdsMore 2 (some .boolean) 1 := ⟨tbG_in 517 (by decide +kernel) (by decide +kernel), ini6, by decide +kernel⟩
theorem ml_X8_187 : Cond.methodLink RX8 187 yX6_holdsMore ∈ tbG := tbG_in 514 (by decide +kernel) (by decide +kernel)
theorem ins_X6_holdsMore : Cond.instanceMethod yX6_holdsMore ∈ tbG := tbG_in 515 (by decide +kernel) (by decide +kernel)
theorem sel_X6_holdsMore : Cond.selects yX6_holdsMore.cls yX6_holdsMore yX6_holdsMore ∈ tbG := tbG_in 516 (by decide +kernel) (by decide +kernel)
theorem lk_X8_190 : LK RX8 190 yX6_add cX6_add 3 none 1 := ⟨tbG_in 521 (by decide +kernel) (by decide +kernel), ini6, by decide +kernel⟩
theorem ml_X8_190 : Cond.methodLink RX8 190 yX6_add ∈ tbG := tbG_in 518 (by decide +kernel) (by decide +kernel)
theorem ins_X6_add : Cond.instanceMethod yX6_add ∈ tbG := tbG_in 519 (by decide +kernel) (by decide +kernel)
theorem sel_X6_add : Cond.selects yX6_add.cls yX6_add yX6_add ∈ tbG := tbG_in 520 (by decide +kernel) (by decide +kernel)
theorem lk_X8_195 : LK RX8 195 yX1_begin cX1_begin 3 none 2 := ⟨tbG_in 530 (by decide +kernel) (by decide +kernel), ini1, by decide +kernel⟩
theorem ml_X8_195 : Cond.methodLink RX8 195 yX1_begin ∈ tbG := tbG_in 527 (by decide +kernel) (by decide +kernel)
theorem ins_X1_begin : Cond.instanceMethod yX1_begin ∈ tbG := tbG_in 528 (by decide +kernel) (by decide +kernel)
theorem sel_X1_begin : Cond.selects yX1_begin.cls yX1_begin yX1_begin ∈ tbG := tbG_in 529 (by decide +kernel) (by decide +kernel)
theorem lk_X8_198 : LK RX8 198 yX2_readText cX2_readText 4 (some .int) 2 := ⟨tbG_in 534 (by decide +kernel) (by decide +kernel), ini2, by decide +kernel⟩
theorem ml_X8_198 : Cond.methodLink RX8 198 yX2_readText ∈ tbG := tbG_in 531 (by decide +kernel) (by decide +kernel)
theorem ins_X2_readText : Cond.instanceMethod yX2_readText ∈ tbG := tbG_in 532 (by decide +kernel) (by decide +kernel)
theorem sel_X2_readText : Cond.selects yX2_readText.cls yX2_readText yX2_readText ∈ tbG := tbG_in 533 (by decide +kernel) (by decide +kernel)
theorem lk_X8_205 : LK RX8 205 yX0_tellOf cX0_tellOf 2 (some .int) 1 := ⟨tbG_in 704 (by decide +kernel) (by decide +kernel), ini0, by decide +kernel⟩
theorem ml_X8_205 : Cond.methodLink RX8 205 yX0_tellOf ∈ tbG := tbG_in 701 (by decide +kernel) (by decide +kernel)
theorem ins_X0_tellOf : Cond.instanceMethod yX0_tellOf ∈ tbG := tbG_in 702 (by decide +kernel) (by decide +kernel)
theorem sel_X0_tellOf : Cond.selects yX0_tellOf.cls yX0_tellOf yX0_tellOf ∈ tbG := tbG_in 703 (by decide +kernel) (by decide +kernel)
theorem lk_X8_208 : LK RX8 208 yX5_tellOf cX5_tellOf 2 (some .int) 1 := ⟨tbG_in 712 (by decide +kernel) (by decide +kernel), ini5, by decide +kernel⟩
theorem ml_X8_208 : Cond.methodLink RX8 208 yX5_tellOf ∈ tbG := tbG_in 709 (by decide +kernel) (by decide +kernel)
theorem ins_X5_tellOf : Cond.instanceMethod yX5_tellOf ∈ tbG := tbG_in 710 (by decide +kernel) (by decide +kernel)
theorem sel_X5_tellOf : Cond.selects yX5_tellOf.cls yX5_tellOf yX5_tellOf ∈ tbG := tbG_in 711 (by decide +kernel) (by decide +kernel)
theorem lk_X8_209 : LK RX8 209 yX3_search cX3_search 7 none 3 := ⟨tbG_in 720 (by decide +kernel) (by decide +kernel), ini3, by decide +kernel⟩
theorem ml_X8_209 : Cond.methodLink RX8 209 yX3_search ∈ tbG := tbG_in 717 (by decide +kernel) (by decide +kernel)
theorem ins_X3_search : Cond.instanceMethod yX3_search ∈ tbG := tbG_in 718 (by decide +kernel) (by decide +kernel)
theorem sel_X3_search : Cond.selects yX3_search.cls yX3_search yX3_search ∈ tbG := tbG_in 719 (by decide +kernel) (by decide +kernel)
theorem lk_X8_216 : LK RX8 216 yX3_bestBay cX3_bestBay 2 (some .int) 1 := ⟨tbG_in 752 (by decide +kernel) (by decide +kernel), ini3, by decide +kernel⟩
theorem ml_X8_216 : Cond.methodLink RX8 216 yX3_bestBay ∈ tbG := tbG_in 749 (by decide +kernel) (by decide +kernel)
theorem ins_X3_bestBay : Cond.instanceMethod yX3_bestBay ∈ tbG := tbG_in 750 (by decide +kernel) (by decide +kernel)
theorem sel_X3_bestBay : Cond.selects yX3_bestBay.cls yX3_bestBay yX3_bestBay ∈ tbG := tbG_in 751 (by decide +kernel) (by decide +kernel)
theorem lk_X8_236 : LK RX8 236 yX8_weightInStacks cX8_weightInStacks 3 (some .int) 0 := ⟨tbG_in 764 (by decide +kernel) (by decide +kernel), ini8, by decide +kernel⟩
theorem ml_X8_236 : Cond.methodLink RX8 236 yX8_weightInStacks ∈ tbG := tbG_in 761 (by decide +kernel) (by decide +kernel)
theorem ins_X8_weightInStacks : Cond.instanceMethod yX8_weightInStacks ∈ tbG := tbG_in 763 (by decide +kernel) (by decide +kernel)
theorem sel_X8_weightInStacks : Cond.selects yX8_weightInStacks.cls yX8_weightInStacks yX8_weightInStacks ∈ tbG := tbG_in 22 (by decide +kernel) (by decide +kernel)
theorem lk_X8_243 : LK RX8 243 yX1_deedFor cX1_deedFor 4 (some .int) 2 := ⟨tbG_in 490 (by decide +kernel) (by decide +kernel), ini1, by decide +kernel⟩
theorem ml_X8_243 : Cond.methodLink RX8 243 yX1_deedFor ∈ tbG := tbG_in 487 (by decide +kernel) (by decide +kernel)
theorem ins_X1_deedFor : Cond.instanceMethod yX1_deedFor ∈ tbG := tbG_in 488 (by decide +kernel) (by decide +kernel)
theorem sel_X1_deedFor : Cond.selects yX1_deedFor.cls yX1_deedFor yX1_deedFor ∈ tbG := tbG_in 489 (by decide +kernel) (by decide +kernel)
theorem lk_X8_249 : LK RX8 249 yX5_turnOver cX5_turnOver 1 none 0 := ⟨tbG_in 505 (by decide +kernel) (by decide +kernel), ini5, by decide +kernel⟩
theorem ml_X8_249 : Cond.methodLink RX8 249 yX5_turnOver ∈ tbG := tbG_in 502 (by decide +kernel) (by decide +kernel)
theorem ins_X5_turnOver : Cond.instanceMethod yX5_turnOver ∈ tbG := tbG_in 503 (by decide +kernel) (by decide +kernel)
theorem sel_X5_turnOver : Cond.selects yX5_turnOver.cls yX5_turnOver yX5_turnOver ∈ tbG := tbG_in 504 (by decide +kernel) (by decide +kernel)
theorem lk_X8_252 : LK RX8 252 yX5_sendAway cX5_sendAway 2 (some .int) 0 := ⟨tbG_in 509 (by decide +kernel) (by decide +kernel), ini5, by decide +kernel⟩
theorem ml_X8_252 : Cond.methodLink RX8 252 yX5_sendAway ∈ tbG := tbG_in 506 (by decide +kernel) (by decide +kernel)
theorem ins_X5_sendAway : Cond.instanceMethod yX5_sendAway ∈ tbG := tbG_in 507 (by decide +kernel) (by decide +kernel)
theorem sel_X5_sendAway : Cond.selects yX5_sendAway.cls yX5_sendAway yX5_sendAway ∈ tbG := tbG_in 508 (by decide +kernel) (by decide +kernel)
theorem ml_X0_3 : Cond.methodLink RX0 3 objectInit ∈ tbG := tbG_in 245 (by decide +kernel) (by decide +kernel)
theorem lk_X0_33 : LK RX0 33 yX0_lies cX0_lies 1 (some .boolean) 0 := ⟨tbG_in 375 (by decide +kernel) (by decide +kernel), ini0, by decide +kernel⟩
theorem ml_X0_33 : Cond.methodLink RX0 33 yX0_lies ∈ tbG := tbG_in 409 (by decide +kernel) (by decide +kernel)
theorem ml_X0_37 : Cond.methodLink RX0 37 Lib.Math.max.name ∈ tbG := tbG_in 414 (by decide +kernel) (by decide +kernel)
theorem ml_X0_43 : Cond.methodLink RX0 43 Lib.Math.min.name ∈ tbG := tbG_in 469 (by decide +kernel) (by decide +kernel)
theorem ml_X1_3 : Cond.methodLink RX1 3 objectInit ∈ tbG := tbG_in 75 (by decide +kernel) (by decide +kernel)
theorem lk_X1_58 : LK RX1 58 yX8_within cX8_within 3 (some .boolean) 3 := ⟨tbG_in 371 (by decide +kernel) (by decide +kernel), ini8, by decide +kernel⟩
theorem nl_X1_58 : (RX1, 58, yX8_within, "PeatBog") ∈ nestL := by decide +kernel
theorem lk_X1_62 : LK RX1 62 yX1_runsOn cX1_runsOn 3 (some .boolean) 2 := ⟨tbG_in 392 (by decide +kernel) (by decide +kernel), ini1, by decide +kernel⟩
theorem ml_X1_62 : Cond.methodLink RX1 62 yX1_runsOn ∈ tbG := tbG_in 389 (by decide +kernel) (by decide +kernel)
theorem ins_X1_runsOn : Cond.instanceMethod yX1_runsOn ∈ tbG := tbG_in 391 (by decide +kernel) (by decide +kernel)
theorem sel_X1_runsOn : Cond.selects yX1_runsOn.cls yX1_runsOn yX1_runsOn ∈ tbG := tbG_in 1 (by decide +kernel) (by decide +kernel)
theorem lk_X1_66 : LK RX1 66 yX1_allHold cX1_allHold 6 (some .boolean) 3 := ⟨tbG_in 494 (by decide +kernel) (by decide +kernel), ini1, by decide +kernel⟩
theorem ml_X1_66 : Cond.methodLink RX1 66 yX1_allHold ∈ tbG := tbG_in 491 (by decide +kernel) (by decide +kernel)
theorem ins_X1_allHold : Cond.instanceMethod yX1_allHold ∈ tbG := tbG_in 493 (by decide +kernel) (by decide +kernel)
theorem sel_X1_allHold : Cond.selects yX1_allHold.cls yX1_allHold yX1_allHold ∈ tbG := tbG_in 4 (by decide +kernel) (by decide +kernel)
theorem lk_X1_72 : LK RX1 72 yX1_holds cX1_holds 5 (some .boolean) 3 := ⟨tbG_in 498 (by decide +kernel) (by decide +kernel), ini1, by decide +kernel⟩
theorem ml_X1_72 : Cond.methodLink RX1 72 yX1_holds ∈ tbG := tbG_in 495 (by decide +kernel) (by decide +kernel)
theorem ins_X1_holds : Cond.instanceMethod yX1_holds ∈ tbG := tbG_in 497 (by decide +kernel) (by decide +kernel)
theorem sel_X1_holds : Cond.selects yX1_holds.cls yX1_holds yX1_holds ∈ tbG := tbG_in 5 (by decide +kernel) (by decide +kernel)
theorem lk_X1_80 : LK RX1 80 yX1_valueOf cX1_valueOf 3 (some .int) 3 := ⟨tbG_in 501 (by decide +kernel) (by decide +kernel), ini1, by decide +kernel⟩
theorem ml_X1_80 : Cond.methodLink RX1 80 yX1_valueOf ∈ tbG := tbG_in 499 (by decide +kernel) (by decide +kernel)
theorem sta_X1_valueOf : Cond.static yX1_valueOf ∈ tbG := tbG_in 500 (by decide +kernel) (by decide +kernel)
theorem ml_X2_3 : Cond.methodLink RX2 3 objectInit ∈ tbG := tbG_in 176 (by decide +kernel) (by decide +kernel)
theorem lk_X2_17 : LK RX2 17 yX7_init cX7_init 2 none 1 := ⟨tbG_in 181 (by decide +kernel) (by decide +kernel), ini7, by decide +kernel⟩
theorem ml_X2_17 : Cond.methodLink RX2 17 yX7_init ∈ tbG := tbG_in 179 (by decide +kernel) (by decide +kernel)
theorem ins_X7_init : Cond.instanceMethod yX7_init ∈ tbG := tbG_in 180 (by decide +kernel) (by decide +kernel)
theorem lk_X2_24 : LK RX2 24 yX7_cut cX7_cut 4 none 1 := ⟨tbG_in 538 (by decide +kernel) (by decide +kernel), ini7, by decide +kernel⟩
theorem ml_X2_24 : Cond.methodLink RX2 24 yX7_cut ∈ tbG := tbG_in 535 (by decide +kernel) (by decide +kernel)
theorem ins_X7_cut : Cond.instanceMethod yX7_cut ∈ tbG := tbG_in 536 (by decide +kernel) (by decide +kernel)
theorem sel_X7_cut : Cond.selects yX7_cut.cls yX7_cut yX7_cut ∈ tbG := tbG_in 537 (by decide +kernel) (by decide +kernel)
theorem lk_X2_30 : LK RX2 30 yX7_codeAt cX7_codeAt 2 (some .int) 1 := ⟨tbG_in 640 (by decide +kernel) (by decide +kernel), ini7, by decide +kernel⟩
theorem ml_X2_30 : Cond.methodLink RX2 30 yX7_codeAt ∈ tbG := tbG_in 637 (by decide +kernel) (by decide +kernel)
theorem ins_X7_codeAt : Cond.instanceMethod yX7_codeAt ∈ tbG := tbG_in 638 (by decide +kernel) (by decide +kernel)
theorem sel_X7_codeAt : Cond.selects yX7_codeAt.cls yX7_codeAt yX7_codeAt ∈ tbG := tbG_in 639 (by decide +kernel) (by decide +kernel)
theorem lk_X2_34 : LK RX2 34 yX2_readStatement cX2_readStatement 2 (some .boolean) 1 := ⟨tbG_in 644 (by decide +kernel) (by decide +kernel), ini2, by decide +kernel⟩
theorem ml_X2_34 : Cond.methodLink RX2 34 yX2_readStatement ∈ tbG := tbG_in 641 (by decide +kernel) (by decide +kernel)
theorem ins_X2_readStatement : Cond.instanceMethod yX2_readStatement ∈ tbG := tbG_in 643 (by decide +kernel) (by decide +kernel)
theorem sel_X2_readStatement : Cond.selects yX2_readStatement.cls yX2_readStatement yX2_readStatement ∈ tbG := tbG_in 10 (by decide +kernel) (by decide +kernel)
theorem lk_X2_38 : LK RX2 38 yX7_placeAt cX7_placeAt 2 (some .int) 1 := ⟨tbG_in 688 (by decide +kernel) (by decide +kernel), ini7, by decide +kernel⟩
theorem ml_X2_38 : Cond.methodLink RX2 38 yX7_placeAt ∈ tbG := tbG_in 685 (by decide +kernel) (by decide +kernel)
theorem ins_X7_placeAt : Cond.instanceMethod yX7_placeAt ∈ tbG := tbG_in 686 (by decide +kernel) (by decide +kernel)
theorem sel_X7_placeAt : Cond.selects yX7_placeAt.cls yX7_placeAt yX7_placeAt ∈ tbG := tbG_in 687 (by decide +kernel) (by decide +kernel)
theorem lk_X2_41 : LK RX2 41 yX2_take cX2_take 2 (some .boolean) 1 := ⟨tbG_in 648 (by decide +kernel) (by decide +kernel), ini2, by decide +kernel⟩
theorem ml_X2_41 : Cond.methodLink RX2 41 yX2_take ∈ tbG := tbG_in 645 (by decide +kernel) (by decide +kernel)
theorem ins_X2_take : Cond.instanceMethod yX2_take ∈ tbG := tbG_in 647 (by decide +kernel) (by decide +kernel)
theorem sel_X2_take : Cond.selects yX2_take.cls yX2_take yX2_take ∈ tbG := tbG_in 11 (by decide +kernel) (by decide +kernel)
theorem lk_X2_45 : LK RX2 45 yX2_takeNumber cX2_takeNumber 1 (some .int) 0 := ⟨tbG_in 652 (by decide +kernel) (by decide +kernel), ini2, by decide +kernel⟩
theorem ml_X2_45 : Cond.methodLink RX2 45 yX2_takeNumber ∈ tbG := tbG_in 649 (by decide +kernel) (by decide +kernel)
theorem ins_X2_takeNumber : Cond.instanceMethod yX2_takeNumber ∈ tbG := tbG_in 651 (by decide +kernel) (by decide +kernel)
theorem sel_X2_takeNumber : Cond.selects yX2_takeNumber.cls yX2_takeNumber yX2_takeNumber ∈ tbG := tbG_in 12 (by decide +kernel) (by decide +kernel)
theorem lk_X2_55 : LK RX2 55 yX2_readClosing cX2_readClosing 6 (some .boolean) 1 := ⟨tbG_in 660 (by decide +kernel) (by decide +kernel), ini2, by decide +kernel⟩
theorem ml_X2_55 : Cond.methodLink RX2 55 yX2_readClosing ∈ tbG := tbG_in 657 (by decide +kernel) (by decide +kernel)
theorem ins_X2_readClosing : Cond.instanceMethod yX2_readClosing ∈ tbG := tbG_in 659 (by decide +kernel) (by decide +kernel)
theorem sel_X2_readClosing : Cond.selects yX2_readClosing.cls yX2_readClosing yX2_readClosing ∈ tbG := tbG_in 13 (by decide +kernel) (by decide +kernel)
theorem lk_X2_58 : LK RX2 58 yX2_readRule cX2_readRule 4 (some .boolean) 1 := ⟨tbG_in 668 (by decide +kernel) (by decide +kernel), ini2, by decide +kernel⟩
theorem ml_X2_58 : Cond.methodLink RX2 58 yX2_readRule ∈ tbG := tbG_in 665 (by decide +kernel) (by decide +kernel)
theorem ins_X2_readRule : Cond.instanceMethod yX2_readRule ∈ tbG := tbG_in 667 (by decide +kernel) (by decide +kernel)
theorem sel_X2_readRule : Cond.selects yX2_readRule.cls yX2_readRule yX2_readRule ∈ tbG := tbG_in 14 (by decide +kernel) (by decide +kernel)
theorem lk_X2_61 : LK RX2 61 yX1_addClosing cX1_addClosing 5 none 4 := ⟨tbG_in 664 (by decide +kernel) (by decide +kernel), ini1, by decide +kernel⟩
theorem ml_X2_61 : Cond.methodLink RX2 61 yX1_addClosing ∈ tbG := tbG_in 661 (by decide +kernel) (by decide +kernel)
theorem ins_X1_addClosing : Cond.instanceMethod yX1_addClosing ∈ tbG := tbG_in 662 (by decide +kernel) (by decide +kernel)
theorem sel_X1_addClosing : Cond.selects yX1_addClosing.cls yX1_addClosing yX1_addClosing ∈ tbG := tbG_in 663 (by decide +kernel) (by decide +kernel)
theorem lk_X2_65 : LK RX2 65 yX2_readTest cX2_readTest 6 (some .boolean) 2 := ⟨tbG_in 672 (by decide +kernel) (by decide +kernel), ini2, by decide +kernel⟩
theorem ml_X2_65 : Cond.methodLink RX2 65 yX2_readTest ∈ tbG := tbG_in 669 (by decide +kernel) (by decide +kernel)
theorem ins_X2_readTest : Cond.instanceMethod yX2_readTest ∈ tbG := tbG_in 671 (by decide +kernel) (by decide +kernel)
theorem sel_X2_readTest : Cond.selects yX2_readTest.cls yX2_readTest yX2_readTest ∈ tbG := tbG_in 15 (by decide +kernel) (by decide +kernel)
theorem lk_X2_69 : LK RX2 69 yX2_takeOneOf cX2_takeOneOf 5 (some .int) 3 := ⟨tbG_in 676 (by decide +kernel) (by decide +kernel), ini2, by decide +kernel⟩
theorem ml_X2_69 : Cond.methodLink RX2 69 yX2_takeOneOf ∈ tbG := tbG_in 673 (by decide +kernel) (by decide +kernel)
theorem ins_X2_takeOneOf : Cond.instanceMethod yX2_takeOneOf ∈ tbG := tbG_in 675 (by decide +kernel) (by decide +kernel)
theorem sel_X2_takeOneOf : Cond.selects yX2_takeOneOf.cls yX2_takeOneOf yX2_takeOneOf ∈ tbG := tbG_in 16 (by decide +kernel) (by decide +kernel)
theorem lk_X2_73 : LK RX2 73 yX1_addRule cX1_addRule 3 none 2 := ⟨tbG_in 684 (by decide +kernel) (by decide +kernel), ini1, by decide +kernel⟩
theorem ml_X2_73 : Cond.methodLink RX2 73 yX1_addRule ∈ tbG := tbG_in 681 (by decide +kernel) (by decide +kernel)
theorem ins_X1_addRule : Cond.instanceMethod yX1_addRule ∈ tbG := tbG_in 682 (by decide +kernel) (by decide +kernel)
theorem sel_X1_addRule : Cond.selects yX1_addRule.cls yX1_addRule yX1_addRule ∈ tbG := tbG_in 683 (by decide +kernel) (by decide +kernel)
theorem lk_X2_77 : LK RX2 77 yX1_putTest cX1_putTest 6 none 4 := ⟨tbG_in 680 (by decide +kernel) (by decide +kernel), ini1, by decide +kernel⟩
theorem ml_X2_77 : Cond.methodLink RX2 77 yX1_putTest ∈ tbG := tbG_in 677 (by decide +kernel) (by decide +kernel)
theorem ins_X1_putTest : Cond.instanceMethod yX1_putTest ∈ tbG := tbG_in 678 (by decide +kernel) (by decide +kernel)
theorem sel_X1_putTest : Cond.selects yX1_putTest.cls yX1_putTest yX1_putTest ∈ tbG := tbG_in 679 (by decide +kernel) (by decide +kernel)
theorem lk_X2_80 : LK RX2 80 yX7_valueAt cX7_valueAt 2 (some .int) 1 := ⟨tbG_in 656 (by decide +kernel) (by decide +kernel), ini7, by decide +kernel⟩
theorem ml_X2_80 : Cond.methodLink RX2 80 yX7_valueAt ∈ tbG := tbG_in 653 (by decide +kernel) (by decide +kernel)
theorem ins_X7_valueAt : Cond.instanceMethod yX7_valueAt ∈ tbG := tbG_in 654 (by decide +kernel) (by decide +kernel)
theorem sel_X7_valueAt : Cond.selects yX7_valueAt.cls yX7_valueAt yX7_valueAt ∈ tbG := tbG_in 655 (by decide +kernel) (by decide +kernel)
theorem ml_X3_3 : Cond.methodLink RX3 3 objectInit ∈ tbG := tbG_in 214 (by decide +kernel) (by decide +kernel)
theorem lk_X3_37 : LK RX3 37 yX8_within cX8_within 3 (some .boolean) 3 := ⟨tbG_in 371 (by decide +kernel) (by decide +kernel), ini8, by decide +kernel⟩
theorem nl_X3_37 : (RX3, 37, yX8_within, "PeatBog") ∈ nestL := by decide +kernel
theorem lk_X3_41 : LK RX3 41 yX3_weigh cX3_weigh 3 none 1 := ⟨tbG_in 725 (by decide +kernel) (by decide +kernel), ini3, by decide +kernel⟩
theorem ml_X3_41 : Cond.methodLink RX3 41 yX3_weigh ∈ tbG := tbG_in 722 (by decide +kernel) (by decide +kernel)
theorem ins_X3_weigh : Cond.instanceMethod yX3_weigh ∈ tbG := tbG_in 724 (by decide +kernel) (by decide +kernel)
theorem sel_X3_weigh : Cond.selects yX3_weigh.cls yX3_weigh yX3_weigh ∈ tbG := tbG_in 17 (by decide +kernel) (by decide +kernel)
theorem lk_X3_45 : LK RX3 45 yX3_firstChanged cX3_firstChanged 3 (some .int) 1 := ⟨tbG_in 735 (by decide +kernel) (by decide +kernel), ini3, by decide +kernel⟩
theorem ml_X3_45 : Cond.methodLink RX3 45 yX3_firstChanged ∈ tbG := tbG_in 732 (by decide +kernel) (by decide +kernel)
theorem ins_X3_firstChanged : Cond.instanceMethod yX3_firstChanged ∈ tbG := tbG_in 734 (by decide +kernel) (by decide +kernel)
theorem sel_X3_firstChanged : Cond.selects yX3_firstChanged.cls yX3_firstChanged yX3_firstChanged ∈ tbG := tbG_in 19 (by decide +kernel) (by decide +kernel)
theorem lk_X3_49 : LK RX3 49 yX3_bayIn cX3_bayIn 3 (some .int) 2 := ⟨tbG_in 739 (by decide +kernel) (by decide +kernel), ini3, by decide +kernel⟩
theorem ml_X3_49 : Cond.methodLink RX3 49 yX3_bayIn ∈ tbG := tbG_in 736 (by decide +kernel) (by decide +kernel)
theorem ins_X3_bayIn : Cond.instanceMethod yX3_bayIn ∈ tbG := tbG_in 738 (by decide +kernel) (by decide +kernel)
theorem sel_X3_bayIn : Cond.selects yX3_bayIn.cls yX3_bayIn yX3_bayIn ∈ tbG := tbG_in 20 (by decide +kernel) (by decide +kernel)
theorem lk_X3_53 : LK RX3 53 yX3_layDay cX3_layDay 5 none 2 := ⟨tbG_in 743 (by decide +kernel) (by decide +kernel), ini3, by decide +kernel⟩
theorem ml_X3_53 : Cond.methodLink RX3 53 yX3_layDay ∈ tbG := tbG_in 740 (by decide +kernel) (by decide +kernel)
theorem ins_X3_layDay : Cond.instanceMethod yX3_layDay ∈ tbG := tbG_in 742 (by decide +kernel) (by decide +kernel)
theorem sel_X3_layDay : Cond.selects yX3_layDay.cls yX3_layDay yX3_layDay ∈ tbG := tbG_in 21 (by decide +kernel) (by decide +kernel)
theorem lk_X3_61 : LK RX3 61 yX3_freshWeight cX3_freshWeight 5 (some .int) 2 := ⟨tbG_in 729 (by decide +kernel) (by decide +kernel), ini3, by decide +kernel⟩
theorem ml_X3_61 : Cond.methodLink RX3 61 yX3_freshWeight ∈ tbG := tbG_in 726 (by decide +kernel) (by decide +kernel)
theorem ins_X3_freshWeight : Cond.instanceMethod yX3_freshWeight ∈ tbG := tbG_in 728 (by decide +kernel) (by decide +kernel)
theorem sel_X3_freshWeight : Cond.selects yX3_freshWeight.cls yX3_freshWeight yX3_freshWeight ∈ tbG := tbG_in 18 (by decide +kernel) (by decide +kernel)
theorem lk_X3_64 : LK RX3 64 yX8_isBay cX8_isBay 1 (some .boolean) 1 := ⟨tbG_in 368 (by decide +kernel) (by decide +kernel), ini8, by decide +kernel⟩
theorem nl_X3_64 : (RX3, 64, yX8_isBay, "PeatBog") ∈ nestL := by decide +kernel
theorem lk_X3_68 : LK RX3 68 yX3_nearBits cX3_nearBits 1 (some .int) 1 := ⟨tbG_in 747 (by decide +kernel) (by decide +kernel), ini3, by decide +kernel⟩
theorem ml_X3_68 : Cond.methodLink RX3 68 yX3_nearBits ∈ tbG := tbG_in 745 (by decide +kernel) (by decide +kernel)
theorem sta_X3_nearBits : Cond.static yX3_nearBits ∈ tbG := tbG_in 746 (by decide +kernel) (by decide +kernel)
theorem ml_X3_71 : Cond.methodLink RX3 71 Lib.Math.abs.name ∈ tbG := tbG_in 748 (by decide +kernel) (by decide +kernel)
theorem ml_X3_76 : Cond.methodLink RX3 76 Lib.Math.max.name ∈ tbG := tbG_in 730 (by decide +kernel) (by decide +kernel)
theorem ml_X3_79 : Cond.methodLink RX3 79 Lib.Math.min.name ∈ tbG := tbG_in 731 (by decide +kernel) (by decide +kernel)
theorem ml_X4_1 : Cond.methodLink RX4 1 objectInit ∈ tbG := tbG_in 134 (by decide +kernel) (by decide +kernel)
theorem ml_X4_25 : Cond.methodLink RX4 25 Lib.Math.min.name ∈ tbG := tbG_in 482 (by decide +kernel) (by decide +kernel)
theorem ml_X5_3 : Cond.methodLink RX5 3 objectInit ∈ tbG := tbG_in 279 (by decide +kernel) (by decide +kernel)
theorem ml_X5_40 : Cond.methodLink RX5 40 Lib.Math.max.name ∈ tbG := tbG_in 476 (by decide +kernel) (by decide +kernel)
theorem ml_X5_46 : Cond.methodLink RX5 46 Lib.Math.min.name ∈ tbG := tbG_in 477 (by decide +kernel) (by decide +kernel)
theorem ml_X6_1 : Cond.methodLink RX6 1 objectInit ∈ tbG := tbG_in 161 (by decide +kernel) (by decide +kernel)
theorem lk_X6_17 : LK RX6 17 yX6_holdsMore cX6_holdsMore 2 (some .boolean) 1 := ⟨tbG_in 517 (by decide +kernel) (by decide +kernel), ini6, by decide +kernel⟩
theorem ml_X6_17 : Cond.methodLink RX6 17 yX6_holdsMore ∈ tbG := tbG_in 522 (by decide +kernel) (by decide +kernel)
theorem ml_X7_1 : Cond.methodLink RX7 1 objectInit ∈ tbG := tbG_in 182 (by decide +kernel) (by decide +kernel)
theorem lk_X7_32 : LK RX7 32 yX6_at cX6_at 2 (some .int) 1 := ⟨tbG_in 542 (by decide +kernel) (by decide +kernel), ini6, by decide +kernel⟩
theorem ml_X7_32 : Cond.methodLink RX7 32 yX6_at ∈ tbG := tbG_in 539 (by decide +kernel) (by decide +kernel)
theorem ins_X6_at : Cond.instanceMethod yX6_at ∈ tbG := tbG_in 540 (by decide +kernel) (by decide +kernel)
theorem sel_X6_at : Cond.selects yX6_at.cls yX6_at yX6_at ∈ tbG := tbG_in 541 (by decide +kernel) (by decide +kernel)
theorem lk_X7_36 : LK RX7 36 yX7_isLetter cX7_isLetter 1 (some .boolean) 1 := ⟨tbG_in 545 (by decide +kernel) (by decide +kernel), ini7, by decide +kernel⟩
theorem ml_X7_36 : Cond.methodLink RX7 36 yX7_isLetter ∈ tbG := tbG_in 543 (by decide +kernel) (by decide +kernel)
theorem sta_X7_isLetter : Cond.static yX7_isLetter ∈ tbG := tbG_in 544 (by decide +kernel) (by decide +kernel)
theorem lk_X7_40 : LK RX7 40 yX7_wordCode cX7_wordCode 4 (some .int) 2 := ⟨tbG_in 549 (by decide +kernel) (by decide +kernel), ini7, by decide +kernel⟩
theorem ml_X7_40 : Cond.methodLink RX7 40 yX7_wordCode ∈ tbG := tbG_in 546 (by decide +kernel) (by decide +kernel)
theorem ins_X7_wordCode : Cond.instanceMethod yX7_wordCode ∈ tbG := tbG_in 548 (by decide +kernel) (by decide +kernel)
theorem sel_X7_wordCode : Cond.selects yX7_wordCode.cls yX7_wordCode yX7_wordCode ∈ tbG := tbG_in 6 (by decide +kernel) (by decide +kernel)
theorem lk_X7_44 : LK RX7 44 yX7_keep cX7_keep 4 none 3 := ⟨tbG_in 623 (by decide +kernel) (by decide +kernel), ini7, by decide +kernel⟩
theorem ml_X7_44 : Cond.methodLink RX7 44 yX7_keep ∈ tbG := tbG_in 620 (by decide +kernel) (by decide +kernel)
theorem ins_X7_keep : Cond.instanceMethod yX7_keep ∈ tbG := tbG_in 622 (by decide +kernel) (by decide +kernel)
theorem sel_X7_keep : Cond.selects yX7_keep.cls yX7_keep yX7_keep ∈ tbG := tbG_in 8 (by decide +kernel) (by decide +kernel)
theorem lk_X7_48 : LK RX7 48 yX7_isDigit cX7_isDigit 1 (some .boolean) 1 := ⟨tbG_in 626 (by decide +kernel) (by decide +kernel), ini7, by decide +kernel⟩
theorem ml_X7_48 : Cond.methodLink RX7 48 yX7_isDigit ∈ tbG := tbG_in 624 (by decide +kernel) (by decide +kernel)
theorem sta_X7_isDigit : Cond.static yX7_isDigit ∈ tbG := tbG_in 625 (by decide +kernel) (by decide +kernel)
theorem lk_X7_51 : LK RX7 51 yX7_keepNumber cX7_keepNumber 5 none 2 := ⟨tbG_in 630 (by decide +kernel) (by decide +kernel), ini7, by decide +kernel⟩
theorem ml_X7_51 : Cond.methodLink RX7 51 yX7_keepNumber ∈ tbG := tbG_in 627 (by decide +kernel) (by decide +kernel)
theorem ins_X7_keepNumber : Cond.instanceMethod yX7_keepNumber ∈ tbG := tbG_in 629 (by decide +kernel) (by decide +kernel)
theorem sel_X7_keepNumber : Cond.selects yX7_keepNumber.cls yX7_keepNumber yX7_keepNumber ∈ tbG := tbG_in 9 (by decide +kernel) (by decide +kernel)
theorem lk_X7_55 : LK RX7 55 yX7_isBlank cX7_isBlank 1 (some .boolean) 1 := ⟨tbG_in 633 (by decide +kernel) (by decide +kernel), ini7, by decide +kernel⟩
theorem ml_X7_55 : Cond.methodLink RX7 55 yX7_isBlank ∈ tbG := tbG_in 631 (by decide +kernel) (by decide +kernel)
theorem sta_X7_isBlank : Cond.static yX7_isBlank ∈ tbG := tbG_in 632 (by decide +kernel) (by decide +kernel)
theorem lk_X7_58 : LK RX7 58 yX7_signCode cX7_signCode 1 (some .int) 1 := ⟨tbG_in 636 (by decide +kernel) (by decide +kernel), ini7, by decide +kernel⟩
theorem ml_X7_58 : Cond.methodLink RX7 58 yX7_signCode ∈ tbG := tbG_in 634 (by decide +kernel) (by decide +kernel)
theorem sta_X7_signCode : Cond.static yX7_signCode ∈ tbG := tbG_in 635 (by decide +kernel) (by decide +kernel)
theorem lk_X7_61 : LK RX7 61 yX7_wordOf cX7_wordOf 1 (some (.object "java/lang/String")) 1 := ⟨tbG_in 552 (by decide +kernel) (by decide +kernel), ini7, by decide +kernel⟩
theorem ml_X7_61 : Cond.methodLink RX7 61 yX7_wordOf ∈ tbG := tbG_in 550 (by decide +kernel) (by decide +kernel)
theorem sta_X7_wordOf : Cond.static yX7_wordOf ∈ tbG := tbG_in 551 (by decide +kernel) (by decide +kernel)
theorem lk_X7_65 : LK RX7 65 yX7_spells cX7_spells 5 (some .boolean) 3 := ⟨tbG_in 571 (by decide +kernel) (by decide +kernel), ini7, by decide +kernel⟩
theorem ml_X7_65 : Cond.methodLink RX7 65 yX7_spells ∈ tbG := tbG_in 568 (by decide +kernel) (by decide +kernel)
theorem ins_X7_spells : Cond.instanceMethod yX7_spells ∈ tbG := tbG_in 570 (by decide +kernel) (by decide +kernel)
theorem sel_X7_spells : Cond.selects yX7_spells.cls yX7_spells yX7_spells ∈ tbG := tbG_in 7 (by decide +kernel) (by decide +kernel)
theorem lk_L_9 : LK RL 9 yX8_init cX8_init 2 none 0 := ⟨tbG_in 61 (by decide +kernel) (by decide +kernel), ini8, by decide +kernel⟩
theorem ml_L_9 : Cond.methodLink RL 9 yX8_init ∈ tbG := tbG_in 59 (by decide +kernel) (by decide +kernel)
theorem ins_X8_init : Cond.instanceMethod yX8_init ∈ tbG := tbG_in 60 (by decide +kernel) (by decide +kernel)
theorem lk_L_12 : LK RL 12 yX9_init cX9_init 2 none 0 := ⟨tbG_in 769 (by decide +kernel) (by decide +kernel), ini9, by decide +kernel⟩
theorem ml_L_12 : Cond.methodLink RL 12 yX9_init ∈ tbG := tbG_in 767 (by decide +kernel) (by decide +kernel)
theorem ins_X9_init : Cond.instanceMethod yX9_init ∈ tbG := tbG_in 768 (by decide +kernel) (by decide +kernel)
theorem lk_L_13 : LK RL 13 yX8_depth cX8_depth 3 (some .boolean) 2 := ⟨tbG_in 365 (by decide +kernel) (by decide +kernel), ini8, by decide +kernel⟩
theorem ml_L_13 : Cond.methodLink RL 13 yX8_depth ∈ tbG := tbG_in 362 (by decide +kernel) (by decide +kernel)
theorem ins_X8_depth : Cond.instanceMethod yX8_depth ∈ tbG := tbG_in 363 (by decide +kernel) (by decide +kernel)
theorem sel_X8_depth : Cond.selects yX8_depth.cls yX8_depth yX8_depth ∈ tbG := tbG_in 364 (by decide +kernel) (by decide +kernel)
theorem lk_L_17 : LK RL 17 yX9_depth cX9_depth 3 (some .boolean) 2 := ⟨tbG_in 1004 (by decide +kernel) (by decide +kernel), ini9, by decide +kernel⟩
theorem ml_L_17 : Cond.methodLink RL 17 yX9_depth ∈ tbG := tbG_in 1001 (by decide +kernel) (by decide +kernel)
theorem ins_X9_depth : Cond.instanceMethod yX9_depth ∈ tbG := tbG_in 1002 (by decide +kernel) (by decide +kernel)
theorem sel_X9_depth : Cond.selects yX9_depth.cls yX9_depth yX9_depth ∈ tbG := tbG_in 1003 (by decide +kernel) (by decide +kernel)
theorem lk_L_18 : LK RL 18 yX8_mill cX8_mill 4 (some .int) 2 := ⟨tbG_in 379 (by decide +kernel) (by decide +kernel), ini8, by decide +kernel⟩
theorem ml_L_18 : Cond.methodLink RL 18 yX8_mill ∈ tbG := tbG_in 376 (by decide +kernel) (by decide +kernel)
theorem ins_X8_mill : Cond.instanceMethod yX8_mill ∈ tbG := tbG_in 377 (by decide +kernel) (by decide +kernel)
theorem sel_X8_mill : Cond.selects yX8_mill.cls yX8_mill yX8_mill ∈ tbG := tbG_in 378 (by decide +kernel) (by decide +kernel)
theorem lk_L_22 : LK RL 22 yX9_mill cX9_mill 3 (some .int) 2 := ⟨tbG_in 1011 (by decide +kernel) (by decide +kernel), ini9, by decide +kernel⟩
theorem ml_L_22 : Cond.methodLink RL 22 yX9_mill ∈ tbG := tbG_in 1008 (by decide +kernel) (by decide +kernel)
theorem ins_X9_mill : Cond.instanceMethod yX9_mill ∈ tbG := tbG_in 1009 (by decide +kernel) (by decide +kernel)
theorem sel_X9_mill : Cond.selects yX9_mill.cls yX9_mill yX9_mill ∈ tbG := tbG_in 1010 (by decide +kernel) (by decide +kernel)
theorem lk_L_23 : LK RL 23 yX8_ridge cX8_ridge 2 (some .boolean) 1 := ⟨tbG_in 400 (by decide +kernel) (by decide +kernel), ini8, by decide +kernel⟩
theorem ml_L_23 : Cond.methodLink RL 23 yX8_ridge ∈ tbG := tbG_in 397 (by decide +kernel) (by decide +kernel)
theorem ins_X8_ridge : Cond.instanceMethod yX8_ridge ∈ tbG := tbG_in 398 (by decide +kernel) (by decide +kernel)
theorem sel_X8_ridge : Cond.selects yX8_ridge.cls yX8_ridge yX8_ridge ∈ tbG := tbG_in 399 (by decide +kernel) (by decide +kernel)
theorem lk_L_27 : LK RL 27 yX9_ridge cX9_ridge 2 (some .boolean) 1 := ⟨tbG_in 1015 (by decide +kernel) (by decide +kernel), ini9, by decide +kernel⟩
theorem ml_L_27 : Cond.methodLink RL 27 yX9_ridge ∈ tbG := tbG_in 1012 (by decide +kernel) (by decide +kernel)
theorem ins_X9_ridge : Cond.instanceMethod yX9_ridge ∈ tbG := tbG_in 1013 (by decide +kernel) (by decide +kernel)
theorem sel_X9_ridge : Cond.selects yX9_ridge.cls yX9_ridge yX9_ridge ∈ tbG := tbG_in 1014 (by decide +kernel) (by decide +kernel)
theorem lk_L_28 : LK RL 28 yX8_probe cX8_probe 3 (some .int) 2 := ⟨tbG_in 404 (by decide +kernel) (by decide +kernel), ini8, by decide +kernel⟩
theorem ml_L_28 : Cond.methodLink RL 28 yX8_probe ∈ tbG := tbG_in 401 (by decide +kernel) (by decide +kernel)
theorem ins_X8_probe : Cond.instanceMethod yX8_probe ∈ tbG := tbG_in 402 (by decide +kernel) (by decide +kernel)
theorem sel_X8_probe : Cond.selects yX8_probe.cls yX8_probe yX8_probe ∈ tbG := tbG_in 403 (by decide +kernel) (by decide +kernel)
theorem lk_L_31 : LK RL 31 yX9_probe cX9_probe 3 (some .int) 2 := ⟨tbG_in 1019 (by decide +kernel) (by decide +kernel), ini9, by decide +kernel⟩
theorem ml_L_31 : Cond.methodLink RL 31 yX9_probe ∈ tbG := tbG_in 1016 (by decide +kernel) (by decide +kernel)
theorem ins_X9_probe : Cond.instanceMethod yX9_probe ∈ tbG := tbG_in 1017 (by decide +kernel) (by decide +kernel)
theorem sel_X9_probe : Cond.selects yX9_probe.cls yX9_probe yX9_probe ∈ tbG := tbG_in 1018 (by decide +kernel) (by decide +kernel)
theorem lk_L_32 : LK RL 32 yX8_stack cX8_stack 1 (some .int) 0 := ⟨tbG_in 420 (by decide +kernel) (by decide +kernel), ini8, by decide +kernel⟩
theorem ml_L_32 : Cond.methodLink RL 32 yX8_stack ∈ tbG := tbG_in 417 (by decide +kernel) (by decide +kernel)
theorem ins_X8_stack : Cond.instanceMethod yX8_stack ∈ tbG := tbG_in 418 (by decide +kernel) (by decide +kernel)
theorem sel_X8_stack : Cond.selects yX8_stack.cls yX8_stack yX8_stack ∈ tbG := tbG_in 419 (by decide +kernel) (by decide +kernel)
theorem lk_L_36 : LK RL 36 yX9_stack cX9_stack 1 (some .int) 0 := ⟨tbG_in 1024 (by decide +kernel) (by decide +kernel), ini9, by decide +kernel⟩
theorem ml_L_36 : Cond.methodLink RL 36 yX9_stack ∈ tbG := tbG_in 1021 (by decide +kernel) (by decide +kernel)
theorem ins_X9_stack : Cond.instanceMethod yX9_stack ∈ tbG := tbG_in 1022 (by decide +kernel) (by decide +kernel)
theorem sel_X9_stack : Cond.selects yX9_stack.cls yX9_stack yX9_stack ∈ tbG := tbG_in 1023 (by decide +kernel) (by decide +kernel)
theorem lk_L_37 : LK RL 37 yX8_bars cX8_bars 3 (some .int) 1 := ⟨tbG_in 424 (by decide +kernel) (by decide +kernel), ini8, by decide +kernel⟩
theorem ml_L_37 : Cond.methodLink RL 37 yX8_bars ∈ tbG := tbG_in 421 (by decide +kernel) (by decide +kernel)
theorem lk_L_41 : LK RL 41 yX9_bars cX9_bars 2 (some .int) 1 := ⟨tbG_in 1028 (by decide +kernel) (by decide +kernel), ini9, by decide +kernel⟩
theorem ml_L_41 : Cond.methodLink RL 41 yX9_bars ∈ tbG := tbG_in 1025 (by decide +kernel) (by decide +kernel)
theorem ins_X9_bars : Cond.instanceMethod yX9_bars ∈ tbG := tbG_in 1026 (by decide +kernel) (by decide +kernel)
theorem sel_X9_bars : Cond.selects yX9_bars.cls yX9_bars yX9_bars ∈ tbG := tbG_in 1027 (by decide +kernel) (by decide +kernel)
theorem lk_L_42 : LK RL 42 yX8_gather cX8_gather 4 (some .int) 2 := ⟨tbG_in 431 (by decide +kernel) (by decide +kernel), ini8, by decide +kernel⟩
theorem ml_L_42 : Cond.methodLink RL 42 yX8_gather ∈ tbG := tbG_in 428 (by decide +kernel) (by decide +kernel)
theorem ins_X8_gather : Cond.instanceMethod yX8_gather ∈ tbG := tbG_in 429 (by decide +kernel) (by decide +kernel)
theorem sel_X8_gather : Cond.selects yX8_gather.cls yX8_gather yX8_gather ∈ tbG := tbG_in 430 (by decide +kernel) (by decide +kernel)
theorem lk_L_45 : LK RL 45 yX9_gather cX9_gather 4 (some .int) 2 := ⟨tbG_in 1033 (by decide +kernel) (by decide +kernel), ini9, by decide +kernel⟩
theorem ml_L_45 : Cond.methodLink RL 45 yX9_gather ∈ tbG := tbG_in 1030 (by decide +kernel) (by decide +kernel)
theorem ins_X9_gather : Cond.instanceMethod yX9_gather ∈ tbG := tbG_in 1031 (by decide +kernel) (by decide +kernel)
theorem sel_X9_gather : Cond.selects yX9_gather.cls yX9_gather yX9_gather ∈ tbG := tbG_in 1032 (by decide +kernel) (by decide +kernel)
theorem lk_L_46 : LK RL 46 yX8_track cX8_track 3 (some .int) 1 := ⟨tbG_in 452 (by decide +kernel) (by decide +kernel), ini8, by decide +kernel⟩
theorem ml_L_46 : Cond.methodLink RL 46 yX8_track ∈ tbG := tbG_in 449 (by decide +kernel) (by decide +kernel)
theorem ins_X8_track : Cond.instanceMethod yX8_track ∈ tbG := tbG_in 450 (by decide +kernel) (by decide +kernel)
theorem sel_X8_track : Cond.selects yX8_track.cls yX8_track yX8_track ∈ tbG := tbG_in 451 (by decide +kernel) (by decide +kernel)
theorem lk_L_49 : LK RL 49 yX9_track cX9_track 3 (some .int) 1 := ⟨tbG_in 1046 (by decide +kernel) (by decide +kernel), ini9, by decide +kernel⟩
theorem ml_L_49 : Cond.methodLink RL 49 yX9_track ∈ tbG := tbG_in 1043 (by decide +kernel) (by decide +kernel)
theorem ins_X9_track : Cond.instanceMethod yX9_track ∈ tbG := tbG_in 1044 (by decide +kernel) (by decide +kernel)
theorem sel_X9_track : Cond.selects yX9_track.cls yX9_track yX9_track ∈ tbG := tbG_in 1045 (by decide +kernel) (by decide +kernel)
theorem lk_L_50 : LK RL 50 yX8_want cX8_want 2 (some .boolean) 1 := ⟨tbG_in 456 (by decide +kernel) (by decide +kernel), ini8, by decide +kernel⟩
theorem ml_L_50 : Cond.methodLink RL 50 yX8_want ∈ tbG := tbG_in 453 (by decide +kernel) (by decide +kernel)
theorem ins_X8_want : Cond.instanceMethod yX8_want ∈ tbG := tbG_in 454 (by decide +kernel) (by decide +kernel)
theorem sel_X8_want : Cond.selects yX8_want.cls yX8_want yX8_want ∈ tbG := tbG_in 455 (by decide +kernel) (by decide +kernel)
theorem lk_L_53 : LK RL 53 yX9_want cX9_want 2 (some .boolean) 1 := ⟨tbG_in 1050 (by decide +kernel) (by decide +kernel), ini9, by decide +kernel⟩
theorem ml_L_53 : Cond.methodLink RL 53 yX9_want ∈ tbG := tbG_in 1047 (by decide +kernel) (by decide +kernel)
theorem ins_X9_want : Cond.instanceMethod yX9_want ∈ tbG := tbG_in 1048 (by decide +kernel) (by decide +kernel)
theorem sel_X9_want : Cond.selects yX9_want.cls yX9_want yX9_want ∈ tbG := tbG_in 1049 (by decide +kernel) (by decide +kernel)
theorem lk_L_54 : LK RL 54 yX8_read cX8_read 3 (some .boolean) 2 := ⟨tbG_in 460 (by decide +kernel) (by decide +kernel), ini8, by decide +kernel⟩
theorem ml_L_54 : Cond.methodLink RL 54 yX8_read ∈ tbG := tbG_in 457 (by decide +kernel) (by decide +kernel)
theorem ins_X8_read : Cond.instanceMethod yX8_read ∈ tbG := tbG_in 458 (by decide +kernel) (by decide +kernel)
theorem sel_X8_read : Cond.selects yX8_read.cls yX8_read yX8_read ∈ tbG := tbG_in 459 (by decide +kernel) (by decide +kernel)
theorem lk_L_57 : LK RL 57 yX9_read cX9_read 3 (some .boolean) 2 := ⟨tbG_in 1054 (by decide +kernel) (by decide +kernel), ini9, by decide +kernel⟩
theorem ml_L_57 : Cond.methodLink RL 57 yX9_read ∈ tbG := tbG_in 1051 (by decide +kernel) (by decide +kernel)
theorem ins_X9_read : Cond.instanceMethod yX9_read ∈ tbG := tbG_in 1052 (by decide +kernel) (by decide +kernel)
theorem sel_X9_read : Cond.selects yX9_read.cls yX9_read yX9_read ∈ tbG := tbG_in 1053 (by decide +kernel) (by decide +kernel)
theorem lk_L_58 : LK RL 58 yX8_day cX8_day 5 (some .int) 3 := ⟨tbG_in 464 (by decide +kernel) (by decide +kernel), ini8, by decide +kernel⟩
theorem ml_L_58 : Cond.methodLink RL 58 yX8_day ∈ tbG := tbG_in 461 (by decide +kernel) (by decide +kernel)
theorem ins_X8_day : Cond.instanceMethod yX8_day ∈ tbG := tbG_in 462 (by decide +kernel) (by decide +kernel)
theorem sel_X8_day : Cond.selects yX8_day.cls yX8_day yX8_day ∈ tbG := tbG_in 463 (by decide +kernel) (by decide +kernel)
theorem lk_L_62 : LK RL 62 yX9_day cX9_day 8 (some .int) 3 := ⟨tbG_in 1058 (by decide +kernel) (by decide +kernel), ini9, by decide +kernel⟩
theorem ml_L_62 : Cond.methodLink RL 62 yX9_day ∈ tbG := tbG_in 1055 (by decide +kernel) (by decide +kernel)
theorem ins_X9_day : Cond.instanceMethod yX9_day ∈ tbG := tbG_in 1056 (by decide +kernel) (by decide +kernel)
theorem sel_X9_day : Cond.selects yX9_day.cls yX9_day yX9_day ∈ tbG := tbG_in 1057 (by decide +kernel) (by decide +kernel)
theorem lk_L_63 : LK RL 63 yX8_feed cX8_feed 6 (some .int) 5 := ⟨tbG_in 513 (by decide +kernel) (by decide +kernel), ini8, by decide +kernel⟩
theorem ml_L_63 : Cond.methodLink RL 63 yX8_feed ∈ tbG := tbG_in 510 (by decide +kernel) (by decide +kernel)
theorem ins_X8_feed : Cond.instanceMethod yX8_feed ∈ tbG := tbG_in 511 (by decide +kernel) (by decide +kernel)
theorem sel_X8_feed : Cond.selects yX8_feed.cls yX8_feed yX8_feed ∈ tbG := tbG_in 512 (by decide +kernel) (by decide +kernel)
theorem lk_L_67 : LK RL 67 yX9_feed cX9_feed 6 (some .int) 5 := ⟨tbG_in 920 (by decide +kernel) (by decide +kernel), ini9, by decide +kernel⟩
theorem ml_L_67 : Cond.methodLink RL 67 yX9_feed ∈ tbG := tbG_in 917 (by decide +kernel) (by decide +kernel)
theorem ins_X9_feed : Cond.instanceMethod yX9_feed ∈ tbG := tbG_in 918 (by decide +kernel) (by decide +kernel)
theorem sel_X9_feed : Cond.selects yX9_feed.cls yX9_feed yX9_feed ∈ tbG := tbG_in 919 (by decide +kernel) (by decide +kernel)
theorem lk_L_68 : LK RL 68 yX8_law cX8_law 3 (some .int) 1 := ⟨tbG_in 526 (by decide +kernel) (by decide +kernel), ini8, by decide +kernel⟩
theorem ml_L_68 : Cond.methodLink RL 68 yX8_law ∈ tbG := tbG_in 523 (by decide +kernel) (by decide +kernel)
theorem ins_X8_law : Cond.instanceMethod yX8_law ∈ tbG := tbG_in 524 (by decide +kernel) (by decide +kernel)
theorem sel_X8_law : Cond.selects yX8_law.cls yX8_law yX8_law ∈ tbG := tbG_in 525 (by decide +kernel) (by decide +kernel)
theorem lk_L_71 : LK RL 71 yX9_law cX9_law 3 (some .int) 1 := ⟨tbG_in 928 (by decide +kernel) (by decide +kernel), ini9, by decide +kernel⟩
theorem ml_L_71 : Cond.methodLink RL 71 yX9_law ∈ tbG := tbG_in 925 (by decide +kernel) (by decide +kernel)
theorem ins_X9_law : Cond.instanceMethod yX9_law ∈ tbG := tbG_in 926 (by decide +kernel) (by decide +kernel)
theorem sel_X9_law : Cond.selects yX9_law.cls yX9_law yX9_law ∈ tbG := tbG_in 927 (by decide +kernel) (by decide +kernel)
theorem lk_L_72 : LK RL 72 yX8_fault cX8_fault 1 (some .int) 0 := ⟨tbG_in 692 (by decide +kernel) (by decide +kernel), ini8, by decide +kernel⟩
theorem ml_L_72 : Cond.methodLink RL 72 yX8_fault ∈ tbG := tbG_in 689 (by decide +kernel) (by decide +kernel)
theorem ins_X8_fault : Cond.instanceMethod yX8_fault ∈ tbG := tbG_in 690 (by decide +kernel) (by decide +kernel)
theorem sel_X8_fault : Cond.selects yX8_fault.cls yX8_fault yX8_fault ∈ tbG := tbG_in 691 (by decide +kernel) (by decide +kernel)
theorem lk_L_75 : LK RL 75 yX9_fault cX9_fault 1 (some .int) 0 := ⟨tbG_in 981 (by decide +kernel) (by decide +kernel), ini9, by decide +kernel⟩
theorem ml_L_75 : Cond.methodLink RL 75 yX9_fault ∈ tbG := tbG_in 978 (by decide +kernel) (by decide +kernel)
theorem ins_X9_fault : Cond.instanceMethod yX9_fault ∈ tbG := tbG_in 979 (by decide +kernel) (by decide +kernel)
theorem sel_X9_fault : Cond.selects yX9_fault.cls yX9_fault yX9_fault ∈ tbG := tbG_in 980 (by decide +kernel) (by decide +kernel)
theorem lk_L_76 : LK RL 76 yX8_tells cX8_tells 4 (some .int) 2 := ⟨tbG_in 696 (by decide +kernel) (by decide +kernel), ini8, by decide +kernel⟩
theorem ml_L_76 : Cond.methodLink RL 76 yX8_tells ∈ tbG := tbG_in 693 (by decide +kernel) (by decide +kernel)
theorem ins_X8_tells : Cond.instanceMethod yX8_tells ∈ tbG := tbG_in 694 (by decide +kernel) (by decide +kernel)
theorem sel_X8_tells : Cond.selects yX8_tells.cls yX8_tells yX8_tells ∈ tbG := tbG_in 695 (by decide +kernel) (by decide +kernel)
theorem lk_L_79 : LK RL 79 yX9_tells cX9_tells 3 (some .int) 2 := ⟨tbG_in 985 (by decide +kernel) (by decide +kernel), ini9, by decide +kernel⟩
theorem ml_L_79 : Cond.methodLink RL 79 yX9_tells ∈ tbG := tbG_in 982 (by decide +kernel) (by decide +kernel)
theorem ins_X9_tells : Cond.instanceMethod yX9_tells ∈ tbG := tbG_in 983 (by decide +kernel) (by decide +kernel)
theorem sel_X9_tells : Cond.selects yX9_tells.cls yX9_tells yX9_tells ∈ tbG := tbG_in 984 (by decide +kernel) (by decide +kernel)
theorem lk_L_80 : LK RL 80 yX8_bay cX8_bay 3 (some .int) 2 := ⟨tbG_in 700 (by decide +kernel) (by decide +kernel), ini8, by decide +kernel⟩
theorem ml_L_80 : Cond.methodLink RL 80 yX8_bay ∈ tbG := tbG_in 697 (by decide +kernel) (by decide +kernel)
theorem ins_X8_bay : Cond.instanceMethod yX8_bay ∈ tbG := tbG_in 698 (by decide +kernel) (by decide +kernel)
theorem sel_X8_bay : Cond.selects yX8_bay.cls yX8_bay yX8_bay ∈ tbG := tbG_in 699 (by decide +kernel) (by decide +kernel)
theorem lk_L_83 : LK RL 83 yX9_bay cX9_bay 3 (some .int) 2 := ⟨tbG_in 1075 (by decide +kernel) (by decide +kernel), ini9, by decide +kernel⟩
theorem ml_L_83 : Cond.methodLink RL 83 yX9_bay ∈ tbG := tbG_in 1072 (by decide +kernel) (by decide +kernel)
theorem ins_X9_bay : Cond.instanceMethod yX9_bay ∈ tbG := tbG_in 1073 (by decide +kernel) (by decide +kernel)
theorem sel_X9_bay : Cond.selects yX9_bay.cls yX9_bay yX9_bay ∈ tbG := tbG_in 1074 (by decide +kernel) (by decide +kernel)
theorem lk_L_84 : LK RL 84 yX8_stackOf cX8_stackOf 3 (some .int) 2 := ⟨tbG_in 708 (by decide +kernel) (by decide +kernel), ini8, by decide +kernel⟩
theorem ml_L_84 : Cond.methodLink RL 84 yX8_stackOf ∈ tbG := tbG_in 705 (by decide +kernel) (by decide +kernel)
theorem ins_X8_stackOf : Cond.instanceMethod yX8_stackOf ∈ tbG := tbG_in 706 (by decide +kernel) (by decide +kernel)
theorem sel_X8_stackOf : Cond.selects yX8_stackOf.cls yX8_stackOf yX8_stackOf ∈ tbG := tbG_in 707 (by decide +kernel) (by decide +kernel)
theorem lk_L_87 : LK RL 87 yX9_stackOf cX9_stackOf 3 (some .int) 2 := ⟨tbG_in 1079 (by decide +kernel) (by decide +kernel), ini9, by decide +kernel⟩
theorem ml_L_87 : Cond.methodLink RL 87 yX9_stackOf ∈ tbG := tbG_in 1076 (by decide +kernel) (by decide +kernel)
theorem ins_X9_stackOf : Cond.instanceMethod yX9_stackOf ∈ tbG := tbG_in 1077 (by decide +kernel) (by decide +kernel)
theorem sel_X9_stackOf : Cond.selects yX9_stackOf.cls yX9_stackOf yX9_stackOf ∈ tbG := tbG_in 1078 (by decide +kernel) (by decide +kernel)
theorem lk_L_88 : LK RL 88 yX8_best cX8_best 3 (some .int) 2 := ⟨tbG_in 716 (by decide +kernel) (by decide +kernel), ini8, by decide +kernel⟩
theorem ml_L_88 : Cond.methodLink RL 88 yX8_best ∈ tbG := tbG_in 713 (by decide +kernel) (by decide +kernel)
theorem ins_X8_best : Cond.instanceMethod yX8_best ∈ tbG := tbG_in 714 (by decide +kernel) (by decide +kernel)
theorem sel_X8_best : Cond.selects yX8_best.cls yX8_best yX8_best ∈ tbG := tbG_in 715 (by decide +kernel) (by decide +kernel)
theorem lk_L_91 : LK RL 91 yX9_best cX9_best 9 (some .int) 2 := ⟨tbG_in 1083 (by decide +kernel) (by decide +kernel), ini9, by decide +kernel⟩
theorem ml_L_91 : Cond.methodLink RL 91 yX9_best ∈ tbG := tbG_in 1080 (by decide +kernel) (by decide +kernel)
theorem ins_X9_best : Cond.instanceMethod yX9_best ∈ tbG := tbG_in 1081 (by decide +kernel) (by decide +kernel)
theorem sel_X9_best : Cond.selects yX9_best.cls yX9_best yX9_best ∈ tbG := tbG_in 1082 (by decide +kernel) (by decide +kernel)
theorem lk_L_92 : LK RL 92 yX8_lasts cX8_lasts 3 (some .int) 0 := ⟨tbG_in 756 (by decide +kernel) (by decide +kernel), ini8, by decide +kernel⟩
theorem ml_L_92 : Cond.methodLink RL 92 yX8_lasts ∈ tbG := tbG_in 753 (by decide +kernel) (by decide +kernel)
theorem ins_X8_lasts : Cond.instanceMethod yX8_lasts ∈ tbG := tbG_in 754 (by decide +kernel) (by decide +kernel)
theorem sel_X8_lasts : Cond.selects yX8_lasts.cls yX8_lasts yX8_lasts ∈ tbG := tbG_in 755 (by decide +kernel) (by decide +kernel)
theorem lk_L_95 : LK RL 95 yX9_lasts cX9_lasts 3 (some .int) 0 := ⟨tbG_in 1091 (by decide +kernel) (by decide +kernel), ini9, by decide +kernel⟩
theorem ml_L_95 : Cond.methodLink RL 95 yX9_lasts ∈ tbG := tbG_in 1088 (by decide +kernel) (by decide +kernel)
theorem ins_X9_lasts : Cond.instanceMethod yX9_lasts ∈ tbG := tbG_in 1089 (by decide +kernel) (by decide +kernel)
theorem sel_X9_lasts : Cond.selects yX9_lasts.cls yX9_lasts yX9_lasts ∈ tbG := tbG_in 1090 (by decide +kernel) (by decide +kernel)
theorem lk_L_96 : LK RL 96 yX8_count cX8_count 2 (some .int) 1 := ⟨tbG_in 760 (by decide +kernel) (by decide +kernel), ini8, by decide +kernel⟩
theorem ml_L_96 : Cond.methodLink RL 96 yX8_count ∈ tbG := tbG_in 757 (by decide +kernel) (by decide +kernel)
theorem ins_X8_count : Cond.instanceMethod yX8_count ∈ tbG := tbG_in 758 (by decide +kernel) (by decide +kernel)
theorem sel_X8_count : Cond.selects yX8_count.cls yX8_count yX8_count ∈ tbG := tbG_in 759 (by decide +kernel) (by decide +kernel)
theorem lk_L_99 : LK RL 99 yX9_count cX9_count 4 (some .int) 1 := ⟨tbG_in 1095 (by decide +kernel) (by decide +kernel), ini9, by decide +kernel⟩
theorem ml_L_99 : Cond.methodLink RL 99 yX9_count ∈ tbG := tbG_in 1092 (by decide +kernel) (by decide +kernel)
theorem ins_X9_count : Cond.instanceMethod yX9_count ∈ tbG := tbG_in 1093 (by decide +kernel) (by decide +kernel)
theorem sel_X9_count : Cond.selects yX9_count.cls yX9_count yX9_count ∈ tbG := tbG_in 1094 (by decide +kernel) (by decide +kernel)
theorem ml_X9_1 : Cond.methodLink RX9 1 objectInit ∈ tbG := tbG_in 770 (by decide +kernel) (by decide +kernel)
theorem lk_X9_109 : LK RX9 109 yX9_isIn cX9_isIn 3 (some .boolean) 3 := ⟨tbG_in 931 (by decide +kernel) (by decide +kernel), ini9, by decide +kernel⟩
theorem ml_X9_109 : Cond.methodLink RX9 109 yX9_isIn ∈ tbG := tbG_in 929 (by decide +kernel) (by decide +kernel)
theorem sta_X9_isIn : Cond.static yX9_isIn ∈ tbG := tbG_in 930 (by decide +kernel) (by decide +kernel)
theorem lk_X9_119 : LK RX9 119 yX9_four cX9_four 3 none 1 := ⟨tbG_in 924 (by decide +kernel) (by decide +kernel), ini9, by decide +kernel⟩
theorem ml_X9_119 : Cond.methodLink RX9 119 yX9_four ∈ tbG := tbG_in 921 (by decide +kernel) (by decide +kernel)
theorem ins_X9_four : Cond.instanceMethod yX9_four ∈ tbG := tbG_in 923 (by decide +kernel) (by decide +kernel)
theorem sel_X9_four : Cond.selects yX9_four.cls yX9_four yX9_four ∈ tbG := tbG_in 23 (by decide +kernel) (by decide +kernel)
theorem lk_X9_129 : LK RX9 129 yX9_blanks cX9_blanks 1 none 0 := ⟨tbG_in 935 (by decide +kernel) (by decide +kernel), ini9, by decide +kernel⟩
theorem ml_X9_129 : Cond.methodLink RX9 129 yX9_blanks ∈ tbG := tbG_in 932 (by decide +kernel) (by decide +kernel)
theorem ins_X9_blanks : Cond.instanceMethod yX9_blanks ∈ tbG := tbG_in 934 (by decide +kernel) (by decide +kernel)
theorem sel_X9_blanks : Cond.selects yX9_blanks.cls yX9_blanks yX9_blanks ∈ tbG := tbG_in 24 (by decide +kernel) (by decide +kernel)
theorem lk_X9_135 : LK RX9 135 yX9_word cX9_word 3 (some .long) 0 := ⟨tbG_in 948 (by decide +kernel) (by decide +kernel), ini9, by decide +kernel⟩
theorem ml_X9_135 : Cond.methodLink RX9 135 yX9_word ∈ tbG := tbG_in 945 (by decide +kernel) (by decide +kernel)
theorem ins_X9_word : Cond.instanceMethod yX9_word ∈ tbG := tbG_in 947 (by decide +kernel) (by decide +kernel)
theorem sel_X9_word : Cond.selects yX9_word.cls yX9_word yX9_word ∈ tbG := tbG_in 27 (by decide +kernel) (by decide +kernel)
theorem lk_X9_148 : LK RX9 148 yX9_takesNumber cX9_takesNumber 2 (some .boolean) 0 := ⟨tbG_in 956 (by decide +kernel) (by decide +kernel), ini9, by decide +kernel⟩
theorem ml_X9_148 : Cond.methodLink RX9 148 yX9_takesNumber ∈ tbG := tbG_in 953 (by decide +kernel) (by decide +kernel)
theorem ins_X9_takesNumber : Cond.instanceMethod yX9_takesNumber ∈ tbG := tbG_in 955 (by decide +kernel) (by decide +kernel)
theorem sel_X9_takesNumber : Cond.selects yX9_takesNumber.cls yX9_takesNumber yX9_takesNumber ∈ tbG := tbG_in 29 (by decide +kernel) (by decide +kernel)
theorem lk_X9_154 : LK RX9 154 yX9_takes cX9_takes 3 (some .boolean) 1 := ⟨tbG_in 944 (by decide +kernel) (by decide +kernel), ini9, by decide +kernel⟩
theorem ml_X9_154 : Cond.methodLink RX9 154 yX9_takes ∈ tbG := tbG_in 941 (by decide +kernel) (by decide +kernel)
theorem ins_X9_takes : Cond.instanceMethod yX9_takes ∈ tbG := tbG_in 943 (by decide +kernel) (by decide +kernel)
theorem sel_X9_takes : Cond.selects yX9_takes.cls yX9_takes yX9_takes ∈ tbG := tbG_in 26 (by decide +kernel) (by decide +kernel)
theorem lk_X9_160 : LK RX9 160 yX9_test cX9_test 4 (some .boolean) 1 := ⟨tbG_in 967 (by decide +kernel) (by decide +kernel), ini9, by decide +kernel⟩
theorem ml_X9_160 : Cond.methodLink RX9 160 yX9_test ∈ tbG := tbG_in 964 (by decide +kernel) (by decide +kernel)
theorem ins_X9_test : Cond.instanceMethod yX9_test ∈ tbG := tbG_in 966 (by decide +kernel) (by decide +kernel)
theorem sel_X9_test : Cond.selects yX9_test.cls yX9_test yX9_test ∈ tbG := tbG_in 31 (by decide +kernel) (by decide +kernel)
theorem lk_X9_176 : LK RX9 176 yX9_closing cX9_closing 2 (some .boolean) 1 := ⟨tbG_in 952 (by decide +kernel) (by decide +kernel), ini9, by decide +kernel⟩
theorem ml_X9_176 : Cond.methodLink RX9 176 yX9_closing ∈ tbG := tbG_in 949 (by decide +kernel) (by decide +kernel)
theorem ins_X9_closing : Cond.instanceMethod yX9_closing ∈ tbG := tbG_in 951 (by decide +kernel) (by decide +kernel)
theorem sel_X9_closing : Cond.selects yX9_closing.cls yX9_closing yX9_closing ∈ tbG := tbG_in 28 (by decide +kernel) (by decide +kernel)
theorem lk_X9_181 : LK RX9 181 yX9_acting cX9_acting 2 (some .boolean) 1 := ⟨tbG_in 963 (by decide +kernel) (by decide +kernel), ini9, by decide +kernel⟩
theorem ml_X9_181 : Cond.methodLink RX9 181 yX9_acting ∈ tbG := tbG_in 960 (by decide +kernel) (by decide +kernel)
theorem ins_X9_acting : Cond.instanceMethod yX9_acting ∈ tbG := tbG_in 962 (by decide +kernel) (by decide +kernel)
theorem sel_X9_acting : Cond.selects yX9_acting.cls yX9_acting yX9_acting ∈ tbG := tbG_in 30 (by decide +kernel) (by decide +kernel)
theorem lk_X9_191 : LK RX9 191 yX9_statement cX9_statement 2 (some .boolean) 1 := ⟨tbG_in 939 (by decide +kernel) (by decide +kernel), ini9, by decide +kernel⟩
theorem ml_X9_191 : Cond.methodLink RX9 191 yX9_statement ∈ tbG := tbG_in 936 (by decide +kernel) (by decide +kernel)
theorem ins_X9_statement : Cond.instanceMethod yX9_statement ∈ tbG := tbG_in 938 (by decide +kernel) (by decide +kernel)
theorem sel_X9_statement : Cond.selects yX9_statement.cls yX9_statement yX9_statement ∈ tbG := tbG_in 25 (by decide +kernel) (by decide +kernel)
theorem lk_X9_197 : LK RX9 197 yX9_inForce cX9_inForce 4 (some .int) 1 := ⟨tbG_in 993 (by decide +kernel) (by decide +kernel), ini9, by decide +kernel⟩
theorem ml_X9_197 : Cond.methodLink RX9 197 yX9_inForce ∈ tbG := tbG_in 990 (by decide +kernel) (by decide +kernel)
theorem ins_X9_inForce : Cond.instanceMethod yX9_inForce ∈ tbG := tbG_in 992 (by decide +kernel) (by decide +kernel)
theorem sel_X9_inForce : Cond.selects yX9_inForce.cls yX9_inForce yX9_inForce ∈ tbG := tbG_in 33 (by decide +kernel) (by decide +kernel)
theorem lk_X9_201 : LK RX9 201 yX9_isClosed cX9_isClosed 7 (some .boolean) 2 := ⟨tbG_in 989 (by decide +kernel) (by decide +kernel), ini9, by decide +kernel⟩
theorem ml_X9_201 : Cond.methodLink RX9 201 yX9_isClosed ∈ tbG := tbG_in 986 (by decide +kernel) (by decide +kernel)
theorem ins_X9_isClosed : Cond.instanceMethod yX9_isClosed ∈ tbG := tbG_in 988 (by decide +kernel) (by decide +kernel)
theorem sel_X9_isClosed : Cond.selects yX9_isClosed.cls yX9_isClosed yX9_isClosed ∈ tbG := tbG_in 32 (by decide +kernel) (by decide +kernel)
theorem lk_X9_205 : LK RX9 205 yX9_one cX9_one 1 (some .int) 1 := ⟨tbG_in 996 (by decide +kernel) (by decide +kernel), ini9, by decide +kernel⟩
theorem ml_X9_205 : Cond.methodLink RX9 205 yX9_one ∈ tbG := tbG_in 994 (by decide +kernel) (by decide +kernel)
theorem sta_X9_one : Cond.static yX9_one ∈ tbG := tbG_in 995 (by decide +kernel) (by decide +kernel)
theorem lk_X9_209 : LK RX9 209 yX9_lastOf cX9_lastOf 7 (some .int) 3 := ⟨tbG_in 1000 (by decide +kernel) (by decide +kernel), ini9, by decide +kernel⟩
theorem ml_X9_209 : Cond.methodLink RX9 209 yX9_lastOf ∈ tbG := tbG_in 997 (by decide +kernel) (by decide +kernel)
theorem ins_X9_lastOf : Cond.instanceMethod yX9_lastOf ∈ tbG := tbG_in 999 (by decide +kernel) (by decide +kernel)
theorem sel_X9_lastOf : Cond.selects yX9_lastOf.cls yX9_lastOf yX9_lastOf ∈ tbG := tbG_in 34 (by decide +kernel) (by decide +kernel)
theorem lk_X9_213 : LK RX9 213 yX9_isBay cX9_isBay 1 (some .boolean) 1 := ⟨tbG_in 1007 (by decide +kernel) (by decide +kernel), ini9, by decide +kernel⟩
theorem ml_X9_213 : Cond.methodLink RX9 213 yX9_isBay ∈ tbG := tbG_in 1005 (by decide +kernel) (by decide +kernel)
theorem sta_X9_isBay : Cond.static yX9_isBay ∈ tbG := tbG_in 1006 (by decide +kernel) (by decide +kernel)
theorem ml_X9_216 : Cond.methodLink RX9 216 Lib.Math.max.name ∈ tbG := tbG_in 1020 (by decide +kernel) (by decide +kernel)
theorem ml_X9_225 : Cond.methodLink RX9 225 Lib.Math.abs.name ∈ tbG := tbG_in 1029 (by decide +kernel) (by decide +kernel)
theorem lk_X9_228 : LK RX9 228 yX9_bars cX9_bars 2 (some .int) 1 := ⟨tbG_in 1028 (by decide +kernel) (by decide +kernel), ini9, by decide +kernel⟩
theorem ml_X9_228 : Cond.methodLink RX9 228 yX9_bars ∈ tbG := tbG_in 1034 (by decide +kernel) (by decide +kernel)
theorem lk_X9_231 : LK RX9 231 yX9_isStack cX9_isStack 2 (some .boolean) 1 := ⟨tbG_in 1038 (by decide +kernel) (by decide +kernel), ini9, by decide +kernel⟩
theorem ml_X9_231 : Cond.methodLink RX9 231 yX9_isStack ∈ tbG := tbG_in 1035 (by decide +kernel) (by decide +kernel)
theorem ins_X9_isStack : Cond.instanceMethod yX9_isStack ∈ tbG := tbG_in 1037 (by decide +kernel) (by decide +kernel)
theorem sel_X9_isStack : Cond.selects yX9_isStack.cls yX9_isStack yX9_isStack ∈ tbG := tbG_in 35 (by decide +kernel) (by decide +kernel)
theorem lk_X9_234 : LK RX9 234 yX9_burns cX9_burns 2 (some .boolean) 1 := ⟨tbG_in 1042 (by decide +kernel) (by decide +kernel), ini9, by decide +kernel⟩
theorem ml_X9_234 : Cond.methodLink RX9 234 yX9_burns ∈ tbG := tbG_in 1039 (by decide +kernel) (by decide +kernel)
theorem ins_X9_burns : Cond.instanceMethod yX9_burns ∈ tbG := tbG_in 1041 (by decide +kernel) (by decide +kernel)
theorem sel_X9_burns : Cond.selects yX9_burns.cls yX9_burns yX9_burns ∈ tbG := tbG_in 36 (by decide +kernel) (by decide +kernel)
theorem ml_X9_243 : Cond.methodLink RX9 243 Lib.Math.min.name ∈ tbG := tbG_in 1063 (by decide +kernel) (by decide +kernel)
theorem lk_X9_249 : LK RX9 249 yX9_dries cX9_dries 7 none 4 := ⟨tbG_in 1062 (by decide +kernel) (by decide +kernel), ini9, by decide +kernel⟩
theorem ml_X9_249 : Cond.methodLink RX9 249 yX9_dries ∈ tbG := tbG_in 1059 (by decide +kernel) (by decide +kernel)
theorem ins_X9_dries : Cond.instanceMethod yX9_dries ∈ tbG := tbG_in 1061 (by decide +kernel) (by decide +kernel)
theorem sel_X9_dries : Cond.selects yX9_dries.cls yX9_dries yX9_dries ∈ tbG := tbG_in 37 (by decide +kernel) (by decide +kernel)
theorem lk_X9_253 : LK RX9 253 yX9_heats cX9_heats 4 none 2 := ⟨tbG_in 1067 (by decide +kernel) (by decide +kernel), ini9, by decide +kernel⟩
theorem ml_X9_253 : Cond.methodLink RX9 253 yX9_heats ∈ tbG := tbG_in 1064 (by decide +kernel) (by decide +kernel)
theorem ins_X9_heats : Cond.instanceMethod yX9_heats ∈ tbG := tbG_in 1066 (by decide +kernel) (by decide +kernel)
theorem sel_X9_heats : Cond.selects yX9_heats.cls yX9_heats yX9_heats ∈ tbG := tbG_in 38 (by decide +kernel) (by decide +kernel)
theorem lk_X9_269 : LK RX9 269 yX9_act cX9_act 8 (some .int) 2 := ⟨tbG_in 1071 (by decide +kernel) (by decide +kernel), ini9, by decide +kernel⟩
theorem ml_X9_269 : Cond.methodLink RX9 269 yX9_act ∈ tbG := tbG_in 1068 (by decide +kernel) (by decide +kernel)
theorem ins_X9_act : Cond.instanceMethod yX9_act ∈ tbG := tbG_in 1070 (by decide +kernel) (by decide +kernel)
theorem sel_X9_act : Cond.selects yX9_act.cls yX9_act yX9_act ∈ tbG := tbG_in 39 (by decide +kernel) (by decide +kernel)
theorem lk_X9_272 : LK RX9 272 yX9_layingOf cX9_layingOf 6 (some .int) 1 := ⟨tbG_in 1087 (by decide +kernel) (by decide +kernel), ini9, by decide +kernel⟩
theorem ml_X9_272 : Cond.methodLink RX9 272 yX9_layingOf ∈ tbG := tbG_in 1084 (by decide +kernel) (by decide +kernel)
theorem ins_X9_layingOf : Cond.instanceMethod yX9_layingOf ∈ tbG := tbG_in 1086 (by decide +kernel) (by decide +kernel)
theorem sel_X9_layingOf : Cond.selects yX9_layingOf.cls yX9_layingOf yX9_layingOf ∈ tbG := tbG_in 40 (by decide +kernel) (by decide +kernel)
theorem ck_X8_9 : Cond.classLink RX8 9 RX0 ∈ tbG := tbG_in 65 (by decide +kernel) (by decide +kernel)
theorem ck_X8_15 : Cond.classLink RX8 15 RX5 ∈ tbG := tbG_in 67 (by decide +kernel) (by decide +kernel)
theorem ck_X8_21 : Cond.classLink RX8 21 RX1 ∈ tbG := tbG_in 69 (by decide +kernel) (by decide +kernel)
theorem ck_X8_32 : Cond.classLink RX8 32 RX4 ∈ tbG := tbG_in 129 (by decide +kernel) (by decide +kernel)
theorem ck_X8_39 : Cond.classLink RX8 39 RX6 ∈ tbG := tbG_in 156 (by decide +kernel) (by decide +kernel)
theorem ck_X8_46 : Cond.classLink RX8 46 RX2 ∈ tbG := tbG_in 171 (by decide +kernel) (by decide +kernel)
theorem ck_X8_55 : Cond.classLink RX8 55 RX3 ∈ tbG := tbG_in 209 (by decide +kernel) (by decide +kernel)
theorem ck_X2_15 : Cond.classLink RX2 15 RX7 ∈ tbG := tbG_in 177 (by decide +kernel) (by decide +kernel)
theorem ck_L_7 : Cond.classLink RL 7 RX8 ∈ tbG := tbG_in 57 (by decide +kernel) (by decide +kernel)
theorem ck_L_10 : Cond.classLink RL 10 RX9 ∈ tbG := tbG_in 765 (by decide +kernel) (by decide +kernel)
theorem lc_X9_142 : Jvm.Cond.constantLong RX9 142 1751474548 ∈ tbG := tbG_in 968 (by decide +kernel) (by decide +kernel)
theorem lc_X9_144 : Jvm.Cond.constantLong RX9 144 512802253683 ∈ tbG := tbG_in 969 (by decide +kernel) (by decide +kernel)
theorem lc_X9_146 : Jvm.Cond.constantLong RX9 146 1953459827 ∈ tbG := tbG_in 970 (by decide +kernel) (by decide +kernel)
theorem lc_X9_152 : Jvm.Cond.constantLong RX9 152 29807 ∈ tbG := tbG_in 957 (by decide +kernel) (by decide +kernel)
theorem lc_X9_158 : Jvm.Cond.constantLong RX9 158 1718775661 ∈ tbG := tbG_in 958 (by decide +kernel) (by decide +kernel)
theorem lc_X9_164 : Jvm.Cond.constantLong RX9 164 6385252 ∈ tbG := tbG_in 971 (by decide +kernel) (by decide +kernel)
theorem lc_X9_166 : Jvm.Cond.constantLong RX9 166 1952998766 ∈ tbG := tbG_in 972 (by decide +kernel) (by decide +kernel)
theorem lc_X9_168 : Jvm.Cond.constantLong RX9 168 1953854062 ∈ tbG := tbG_in 973 (by decide +kernel) (by decide +kernel)
theorem lc_X9_170 : Jvm.Cond.constantLong RX9 170 1936027236 ∈ tbG := tbG_in 974 (by decide +kernel) (by decide +kernel)
theorem lc_X9_172 : Jvm.Cond.constantLong RX9 172 1801807216 ∈ tbG := tbG_in 975 (by decide +kernel) (by decide +kernel)
theorem lc_X9_174 : Jvm.Cond.constantLong RX9 174 427021005669 ∈ tbG := tbG_in 940 (by decide +kernel) (by decide +kernel)
theorem lc_X9_179 : Jvm.Cond.constantLong RX9 179 26982 ∈ tbG := tbG_in 959 (by decide +kernel) (by decide +kernel)
theorem lc_X9_184 : Jvm.Cond.constantLong RX9 184 465625246068 ∈ tbG := tbG_in 976 (by decide +kernel) (by decide +kernel)
theorem lc_X9_186 : Jvm.Cond.constantLong RX9 186 431198598248 ∈ tbG := tbG_in 977 (by decide +kernel) (by decide +kernel)
theorem oi_ins : Cond.instanceMethod objectInit ∈ tbG := tbG_in 63 (by decide +kernel) (by decide +kernel)
theorem oi_code : Cond.code objectInit ⟨#[0xb1]⟩ 1 none ∈ tbG := tbG_in 64 (by decide +kernel) (by decide +kernel)
theorem ma_max : Cond.static Lib.Math.max.name ∈ tbG := tbG_in 415 (by decide +kernel) (by decide +kernel)
theorem mc_max : Cond.code Lib.Math.max.name Lib.Math.max.code 2 (some .int) ∈ tbG := tbG_in 416 (by decide +kernel) (by decide +kernel)
theorem ma_min : Cond.static Lib.Math.min.name ∈ tbG := tbG_in 470 (by decide +kernel) (by decide +kernel)
theorem mc_min : Cond.code Lib.Math.min.name Lib.Math.min.code 2 (some .int) ∈ tbG := tbG_in 471 (by decide +kernel) (by decide +kernel)
theorem ma_abs : Cond.static Lib.Math.abs.name ∈ tbG := tbG_in 426 (by decide +kernel) (by decide +kernel)
theorem mc_abs : Cond.code Lib.Math.abs.name Lib.Math.abs.code 1 (some .int) ∈ tbG := tbG_in 427 (by decide +kernel) (by decide +kernel)
theorem ma_ini : Cond.initialized "java/lang/Math" ∈ tbG := tbG_in 52 (by decide +kernel) (by decide +kernel)
theorem ac_int : Cond.arrayClass .int ∈ tbG := tbG_in 128 (by decide +kernel) (by decide +kernel)
theorem ac_byte : Cond.arrayClass .byte ∈ tbG := tbG_in 170 (by decide +kernel) (by decide +kernel)
theorem ac_boolean : Cond.arrayClass .boolean ∈ tbG := tbG_in 916 (by decide +kernel) (by decide +kernel)
end
section
/-! functional contracts: the answer and the ints behind it are told as values -/
abbrev rK (d : Nat) : Room := { frames := d, cells := 0, slots := 0, locals := 36 * d }
def CtI (l : Launch) (y : MethodName) (cc : ByteArray) (nL : Nat) (ty : FieldType) (rm : Room) (D : va_G) (cy : Nat → ClassId) (X : va_W) (ad : Nat → Nat) (Z : ZT) (M : MT) (as : List Value) (r : Int32) (M' : MT) : Prop := Ctr l y cc nL (some ty) rm D cy X ad Z M as (fun v ad' Z' M1 => ad' = ad ∧ Z' = Z ∧ v = some (.int r) ∧ M1 = M')
def CtV (l : Launch) (y : MethodName) (cc : ByteArray) (nL : Nat) (rm : Room) (D : va_G) (cy : Nat → ClassId) (X : va_W) (ad : Nat → Nat) (Z : ZT) (M : MT) (as : List Value) (M' : MT) : Prop := Ctr l y cc nL none rm D cy X ad Z M as (fun v ad' Z' M1 => ad' = ad ∧ Z' = Z ∧ v = none ∧ M1 = M')
def CtR (l : Launch) (y : MethodName) (cc : ByteArray) (nL : Nat) (C : String) (rm : Room) (D : va_G) (cy : Nat → ClassId) (X : va_W) (ad : Nat → Nat) (Z : ZT) (M : MT) (as : List Value) (j : Nat) (M' : MT) : Prop := Ctr l y cc nL (some (.object C)) rm D cy X ad Z M as (fun v ad' Z' M1 => ad' = ad ∧ Z' = Z ∧ v = some (.ref (ad j)) ∧ M1 = M')
def CtL (l : Launch) (y : MethodName) (cc : ByteArray) (nL : Nat) (rm : Room) (D : va_G) (cy : Nat → ClassId) (X : va_W) (ad : Nat → Nat) (Z : ZT) (M : MT) (as : List Value) (r : Int64) (M' : MT) : Prop := Ctr l y cc nL (some .long) rm D cy X ad Z M as (fun v ad' Z' M1 => ad' = ad ∧ Z' = Z ∧ v = some (.long r) ∧ M1 = M')
theorem up_s {M : MT} {i k : Nat} {v : Int32} : up2 M i k v i k = v := by simp [up2, va_up]
theorem up_k {M : MT} {i k k' : Nat} {v x : Int32} (h : k' ≠ k) (e : M i k' = x) : up2 M i k v i k' = x := by simp [up2, va_up, h, e]
theorem up_c {M : MT} {i j k k' : Nat} {v x : Int32} (h : j ≠ i) (e : M j k' = x) : up2 M i k v j k' = x := by simp [up2, va_up, h, e]
theorem ci_ne {Z : ZT} {i j ci cj : Nat} {a b : Nat × List (Option Nat)} (h1 : Z[i]? = some (ci, a)) (h2 : Z[j]? = some (cj, b)) (h : ci ≠ cj) : i ≠ j := fun e => by subst e; rw [h1] at h2; exact h (Prod.mk.inj (Option.some.inj h2)).1
theorem nbz {x : Int32} (h : x = 0 ∨ x = 1) : narrow .boolean (.int x) = .int x := by rcases h with rfl | rfl <;> rfl
section CF
variable {K : KT} {cc : ByteArray} {own : String} {nL : Nat} {rm : Room} {ad : Nat → Nat} {n1 n2 : Nat} {Z : ZT} {M M' : MT} {pc : Nat} {lv : List (Nat × Value)} {st : List Value} {y : MethodName} {bytes : ByteArray} {maxL idx n : Nat} {ty : FieldType} {rm2 : Room} {As rest : List Value}
theorem V_getE (f : Fx K cc own nL rm) {idx ci k : Nat} {C : String} {T : u_T} {N : Nat} (hd : decode cc pc = .ok (.getfield idx, 3)) (lf : LF own idx ci k C T N) (hfl : (kFl ci)[k]? = some false) {i n : Nat} {rs : List (Option Nat)} (hi : Z[i]? = some (ci, n, rs)) {x : Int32} (hx : M i k = x) (kk : V K ad n1 n2 Z M (pc + 3) lv (.int x :: st)) : V K ad n1 n2 Z M pc lv (.ref (ad i) :: st) := V_getI f hd lf hfl hi (by rw [hx]; exact kk)
theorem V_ialdE (f : Fx K cc own nL rm) (hd : decode cc pc = .ok (.iaload, 1)) {a n : Nat} {rs : List (Option Nat)} (hi : Z[a]? = some (11, n, rs)) {i : Int32} (hin : vp_in i n) {x : Int32} (hx : M a i.toNatClampNeg = x) (kk : V K ad n1 n2 Z M (pc + 1) lv (.int x :: st)) : V K ad n1 n2 Z M pc lv (.int i :: .ref (ad a) :: st) := V_iald f hd hi hin (by rw [hx]; exact kk)

theorem V_cVi (f : Fx K cc own nL rm) {r : Int32} (hd : decode cc pc = .ok (.invokevirtual idx, 3)) (lk : LK own idx y bytes maxL (some ty) n) (hl1 : Cond.methodLink own idx y ∈ tbG) (hin : Cond.instanceMethod y ∈ tbG) (hse : Cond.selects y.cls y y ∈ tbG) {i ci zn : Nat} {rs : List (Option Nat)} {T : u_T} {N : Nat} (hi : Z[i]? = some (ci, zn, rs)) (hci : ci < 10) (hc : vwCl[ci]? = some (y.cls, T, N)) (hM : CtI (kl K) y bytes maxL ty rm2 (kD K) (ky K) (kX K) ad Z M (.ref (ad i) :: As) r M') (hn : As.length = n) (hcat : (rest.map fun v => v.category).sum ≤ 8) (hst : st = As.reverse ++ .ref (ad i) :: rest) (hR : rm2.frames + 1 ≤ rm.frames ∧ 8 + (maxL + 11) + rm2.locals ≤ rm.locals) (hC : n1 ≤ rm.cells ∧ n2 ≤ rm.slots) (z1 : rm2.cells = 0) (z2 : rm2.slots = 0) (kk : V K ad n1 n2 Z M' (pc + 3) lv (.int r :: rest)) : V K ad n1 n2 Z M pc lv st := V_callV f hd lk hl1 hin hse hM hi hci hc hn hst hcat hR (by rw [z1, z2]; exact hC) (fun v ad' Z' M1 hp => by obtain ⟨rfl, rfl, rfl, rfl⟩ := hp; rw [z1, z2]; exact kk)
theorem V_cSi (f : Fx K cc own nL rm) (hd : decode cc pc = .ok (.invokestatic idx, 3)) (lk : LK own idx y bytes maxL (some ty) n) (hl1 : Cond.methodLink own idx y ∈ tbG) (hsta : Cond.static y ∈ tbG) {r : Int32} (hM : CtI (kl K) y bytes maxL ty rm2 (kD K) (ky K) (kX K) ad Z M As r M') (hn : As.length = n) (hcat : (rest.map fun v => v.category).sum ≤ 8) (hst : st = As.reverse ++ rest) (hR : rm2.frames + 1 ≤ rm.frames ∧ 8 + (maxL + 11) + rm2.locals ≤ rm.locals) (hC : n1 ≤ rm.cells ∧ n2 ≤ rm.slots) (z1 : rm2.cells = 0) (z2 : rm2.slots = 0) (kk : V K ad n1 n2 Z M' (pc + 3) lv (.int r :: rest)) : V K ad n1 n2 Z M pc lv st := V_callS f hd lk hl1 hsta hM hn hst hcat hR (by rw [z1, z2]; exact hC) (fun v ad' Z' M1 hp => by obtain ⟨rfl, rfl, rfl, rfl⟩ := hp; rw [z1, z2]; exact kk)
theorem V_cNi (f : Fx K cc own nL rm) (hd : decode cc pc = .ok (.invokestatic idx, 3)) (lk : LK own idx y bytes maxL (some ty) n) {host : String} (hl1 : (own, idx, y, host) ∈ nestL) (hsta : Cond.static y ∈ tbG) {r : Int32} (hM : CtI (kl K) y bytes maxL ty rm2 (kD K) (ky K) (kX K) ad Z M As r M') (hn : As.length = n) (hcat : (rest.map fun v => v.category).sum ≤ 8) (hst : st = As.reverse ++ rest) (hR : rm2.frames + 1 ≤ rm.frames ∧ 8 + (maxL + 11) + rm2.locals ≤ rm.locals) (hC : n1 ≤ rm.cells ∧ n2 ≤ rm.slots) (z1 : rm2.cells = 0) (z2 : rm2.slots = 0) (kk : V K ad n1 n2 Z M' (pc + 3) lv (.int r :: rest)) : V K ad n1 n2 Z M pc lv st := V_callSN f hd lk hl1 hsta hM hn hst hcat hR (by rw [z1, z2]; exact hC) (fun v ad' Z' M1 hp => by obtain ⟨rfl, rfl, rfl, rfl⟩ := hp; rw [z1, z2]; exact kk)
theorem V_cVv (f : Fx K cc own nL rm)  (hd : decode cc pc = .ok (.invokevirtual idx, 3)) (lk : LK own idx y bytes maxL none n) (hl1 : Cond.methodLink own idx y ∈ tbG) (hin : Cond.instanceMethod y ∈ tbG) (hse : Cond.selects y.cls y y ∈ tbG) {i ci zn : Nat} {rs : List (Option Nat)} {T : u_T} {N : Nat} (hi : Z[i]? = some (ci, zn, rs)) (hci : ci < 10) (hc : vwCl[ci]? = some (y.cls, T, N)) (hM : CtV (kl K) y bytes maxL  rm2 (kD K) (ky K) (kX K) ad Z M (.ref (ad i) :: As) M') (hn : As.length = n) (hcat : (rest.map fun v => v.category).sum ≤ 8) (hst : st = As.reverse ++ .ref (ad i) :: rest) (hR : rm2.frames + 1 ≤ rm.frames ∧ 8 + (maxL + 11) + rm2.locals ≤ rm.locals) (hC : n1 ≤ rm.cells ∧ n2 ≤ rm.slots) (z1 : rm2.cells = 0) (z2 : rm2.slots = 0) (kk : V K ad n1 n2 Z M' (pc + 3) lv (rest)) : V K ad n1 n2 Z M pc lv st := V_callV f hd lk hl1 hin hse hM hi hci hc hn hst hcat hR (by rw [z1, z2]; exact hC) (fun v ad' Z' M1 hp => by obtain ⟨rfl, rfl, rfl, rfl⟩ := hp; rw [z1, z2]; exact kk)
theorem V_cSv (f : Fx K cc own nL rm) (hd : decode cc pc = .ok (.invokestatic idx, 3)) (lk : LK own idx y bytes maxL none n) (hl1 : Cond.methodLink own idx y ∈ tbG) (hsta : Cond.static y ∈ tbG)  (hM : CtV (kl K) y bytes maxL  rm2 (kD K) (ky K) (kX K) ad Z M As M') (hn : As.length = n) (hcat : (rest.map fun v => v.category).sum ≤ 8) (hst : st = As.reverse ++ rest) (hR : rm2.frames + 1 ≤ rm.frames ∧ 8 + (maxL + 11) + rm2.locals ≤ rm.locals) (hC : n1 ≤ rm.cells ∧ n2 ≤ rm.slots) (z1 : rm2.cells = 0) (z2 : rm2.slots = 0) (kk : V K ad n1 n2 Z M' (pc + 3) lv (rest)) : V K ad n1 n2 Z M pc lv st := V_callS f hd lk hl1 hsta hM hn hst hcat hR (by rw [z1, z2]; exact hC) (fun v ad' Z' M1 hp => by obtain ⟨rfl, rfl, rfl, rfl⟩ := hp; rw [z1, z2]; exact kk)
theorem V_cNv (f : Fx K cc own nL rm) (hd : decode cc pc = .ok (.invokestatic idx, 3)) (lk : LK own idx y bytes maxL none n) {host : String} (hl1 : (own, idx, y, host) ∈ nestL) (hsta : Cond.static y ∈ tbG)  (hM : CtV (kl K) y bytes maxL  rm2 (kD K) (ky K) (kX K) ad Z M As M') (hn : As.length = n) (hcat : (rest.map fun v => v.category).sum ≤ 8) (hst : st = As.reverse ++ rest) (hR : rm2.frames + 1 ≤ rm.frames ∧ 8 + (maxL + 11) + rm2.locals ≤ rm.locals) (hC : n1 ≤ rm.cells ∧ n2 ≤ rm.slots) (z1 : rm2.cells = 0) (z2 : rm2.slots = 0) (kk : V K ad n1 n2 Z M' (pc + 3) lv (rest)) : V K ad n1 n2 Z M pc lv st := V_callSN f hd lk hl1 hsta hM hn hst hcat hR (by rw [z1, z2]; exact hC) (fun v ad' Z' M1 hp => by obtain ⟨rfl, rfl, rfl, rfl⟩ := hp; rw [z1, z2]; exact kk)
theorem V_cVr (f : Fx K cc own nL rm) {C : String} {j : Nat} (hd : decode cc pc = .ok (.invokevirtual idx, 3)) (lk : LK own idx y bytes maxL (some (.object C)) n) (hl1 : Cond.methodLink own idx y ∈ tbG) (hin : Cond.instanceMethod y ∈ tbG) (hse : Cond.selects y.cls y y ∈ tbG) {i ci zn : Nat} {rs : List (Option Nat)} {T : u_T} {N : Nat} (hi : Z[i]? = some (ci, zn, rs)) (hci : ci < 10) (hc : vwCl[ci]? = some (y.cls, T, N)) (hM : CtR (kl K) y bytes maxL C rm2 (kD K) (ky K) (kX K) ad Z M (.ref (ad i) :: As) j M') (hn : As.length = n) (hcat : (rest.map fun v => v.category).sum ≤ 8) (hst : st = As.reverse ++ .ref (ad i) :: rest) (hR : rm2.frames + 1 ≤ rm.frames ∧ 8 + (maxL + 11) + rm2.locals ≤ rm.locals) (hC : n1 ≤ rm.cells ∧ n2 ≤ rm.slots) (z1 : rm2.cells = 0) (z2 : rm2.slots = 0) (kk : V K ad n1 n2 Z M' (pc + 3) lv (.ref (ad j) :: rest)) : V K ad n1 n2 Z M pc lv st := V_callV f hd lk hl1 hin hse hM hi hci hc hn hst hcat hR (by rw [z1, z2]; exact hC) (fun v ad' Z' M1 hp => by obtain ⟨rfl, rfl, rfl, rfl⟩ := hp; rw [z1, z2]; exact kk)
theorem V_cVl (f : Fx K cc own nL rm) {r : Int64} (hd : decode cc pc = .ok (.invokevirtual idx, 3)) (lk : LK own idx y bytes maxL (some .long) n) (hl1 : Cond.methodLink own idx y ∈ tbG) (hin : Cond.instanceMethod y ∈ tbG) (hse : Cond.selects y.cls y y ∈ tbG) {i ci zn : Nat} {rs : List (Option Nat)} {T : u_T} {N : Nat} (hi : Z[i]? = some (ci, zn, rs)) (hci : ci < 10) (hc : vwCl[ci]? = some (y.cls, T, N)) (hM : CtL (kl K) y bytes maxL  rm2 (kD K) (ky K) (kX K) ad Z M (.ref (ad i) :: As) r M') (hn : As.length = n) (hcat : (rest.map fun v => v.category).sum ≤ 8) (hst : st = As.reverse ++ .ref (ad i) :: rest) (hR : rm2.frames + 1 ≤ rm.frames ∧ 8 + (maxL + 11) + rm2.locals ≤ rm.locals) (hC : n1 ≤ rm.cells ∧ n2 ≤ rm.slots) (z1 : rm2.cells = 0) (z2 : rm2.slots = 0) (kk : V K ad n1 n2 Z M' (pc + 3) lv (.long r :: rest)) : V K ad n1 n2 Z M pc lv st := V_callV f hd lk hl1 hin hse hM hi hci hc hn hst hcat hR (by rw [z1, z2]; exact hC) (fun v ad' Z' M1 hp => by obtain ⟨rfl, rfl, rfl, rfl⟩ := hp; rw [z1, z2]; exact kk)
end CF
end
section
/-- the cells of a PeatBog: kind, length, references -/
def ZB : ZT := [(8, 0, [some 1, some 2, some 3, some 4, some 14, some 15, some 17, some 22, none, none, none, none, none, none, none]), (13, 16, [some 28, some 29, some 30, some 31, some 32, some 33, some 34, some 35, some 36, some 37, some 38, some 39, some 40, some 41, some 42, some 43]), (15, 10, [some 44, some 45, some 46, some 47, some 48, some 49, some 50, some 51, some 52, some 53]), (14, 8, [some 54, some 64, some 74, some 84, some 94, some 104, some 114, some 124]), (1, 0, [none, none, none, none, none, some 5, some 6, some 7, some 8, none, some 9, some 10, some 11, some 12, some 13]), (11, 16, []), (11, 16, []), (11, 16, []), (11, 16, []), (11, 16, []), (11, 16, []), (11, 48, []), (11, 48, []), (11, 48, []), (4, 0, [none, none, none, none, none]), (6, 0, [some 16, none]), (10, 500, []), (2, 0, [some 18, none]), (7, 0, [some 15, none, some 19, some 20, some 21, none]), (11, 500, []), (11, 500, []), (11, 500, []), (3, 0, [some 23, some 24, some 25, some 26, some 27, none, none, none]), (11, 16, []), (11, 16, []), (11, 4, []), (11, 4, []), (11, 4, []), (0, 0, [none, none, none, none, none, none, none]), (0, 0, [none, none, none, none, none, none, none]), (0, 0, [none, none, none, none, none, none, none]), (0, 0, [none, none, none, none, none, none, none]), (0, 0, [none, none, none, none, none, none, none]), (0, 0, [none, none, none, none, none, none, none]), (0, 0, [none, none, none, none, none, none, none]), (0, 0, [none, none, none, none, none, none, none]), (0, 0, [none, none, none, none, none, none, none]), (0, 0, [none, none, none, none, none, none, none]), (0, 0, [none, none, none, none, none, none, none]), (0, 0, [none, none, none, none, none, none, none]), (0, 0, [none, none, none, none, none, none, none]), (0, 0, [none, none, none, none, none, none, none]), (0, 0, [none, none, none, none, none, none, none]), (0, 0, [none, none, none, none, none, none, none]), (5, 0, [none, none, none, none, none, none, none, none, none]), (5, 0, [none, none, none, none, none, none, none, none, none]), (5, 0, [none, none, none, none, none, none, none, none, none]), (5, 0, [none, none, none, none, none, none, none, none, none]), (5, 0, [none, none, none, none, none, none, none, none, none]), (5, 0, [none, none, none, none, none, none, none, none, none]), (5, 0, [none, none, none, none, none, none, none, none, none]), (5, 0, [none, none, none, none, none, none, none, none, none]), (5, 0, [none, none, none, none, none, none, none, none, none]), (5, 0, [none, none, none, none, none, none, none, none, none]), (1, 0, [none, none, none, none, none, some 55, some 56, some 57, some 58, none, some 59, some 60, some 61, some 62, some 63]), (11, 16, []), (11, 16, []), (11, 16, []), (11, 16, []), (11, 16, []), (11, 16, []), (11, 48, []), (11, 48, []), (11, 48, []), (1, 0, [none, none, none, none, none, some 65, some 66, some 67, some 68, none, some 69, some 70, some 71, some 72, some 73]), (11, 16, []), (11, 16, []), (11, 16, []), (11, 16, []), (11, 16, []), (11, 16, []), (11, 48, []), (11, 48, []), (11, 48, []), (1, 0, [none, none, none, none, none, some 75, some 76, some 77, some 78, none, some 79, some 80, some 81, some 82, some 83]), (11, 16, []), (11, 16, []), (11, 16, []), (11, 16, []), (11, 16, []), (11, 16, []), (11, 48, []), (11, 48, []), (11, 48, []), (1, 0, [none, none, none, none, none, some 85, some 86, some 87, some 88, none, some 89, some 90, some 91, some 92, some 93]), (11, 16, []), (11, 16, []), (11, 16, []), (11, 16, []), (11, 16, []), (11, 16, []), (11, 48, []), (11, 48, []), (11, 48, []), (1, 0, [none, none, none, none, none, some 95, some 96, some 97, some 98, none, some 99, some 100, some 101, some 102, some 103]), (11, 16, []), (11, 16, []), (11, 16, []), (11, 16, []), (11, 16, []), (11, 16, []), (11, 48, []), (11, 48, []), (11, 48, []), (1, 0, [none, none, none, none, none, some 105, some 106, some 107, some 108, none, some 109, some 110, some 111, some 112, some 113]), (11, 16, []), (11, 16, []), (11, 16, []), (11, 16, []), (11, 16, []), (11, 16, []), (11, 48, []), (11, 48, []), (11, 48, []), (1, 0, [none, none, none, none, none, some 115, some 116, some 117, some 118, none, some 119, some 120, some 121, some 122, some 123]), (11, 16, []), (11, 16, []), (11, 16, []), (11, 16, []), (11, 16, []), (11, 16, []), (11, 48, []), (11, 48, []), (11, 48, []), (1, 0, [none, none, none, none, none, some 125, some 126, some 127, some 128, none, some 129, some 130, some 131, some 132, some 133]), (11, 16, []), (11, 16, []), (11, 16, []), (11, 16, []), (11, 16, []), (11, 16, []), (11, 48, []), (11, 48, []), (11, 48, [])]
theorem zb_0 : ZB[0]? = some (8, 0, [some 1, some 2, some 3, some 4, some 14, some 15, some 17, some 22, none, none, none, none, none, none, none]) := by decide +kernel
theorem zb_1 : ZB[1]? = some (13, 16, [some 28, some 29, some 30, some 31, some 32, some 33, some 34, some 35, some 36, some 37, some 38, some 39, some 40, some 41, some 42, some 43]) := by decide +kernel
theorem zb_2 : ZB[2]? = some (15, 10, [some 44, some 45, some 46, some 47, some 48, some 49, some 50, some 51, some 52, some 53]) := by decide +kernel
theorem zb_3 : ZB[3]? = some (14, 8, [some 54, some 64, some 74, some 84, some 94, some 104, some 114, some 124]) := by decide +kernel
theorem zb_14 : ZB[14]? = some (4, 0, [none, none, none, none, none]) := by decide +kernel
theorem zb_15 : ZB[15]? = some (6, 0, [some 16, none]) := by decide +kernel
theorem zb_16 : ZB[16]? = some (10, 500, []) := by decide +kernel
theorem zb_17 : ZB[17]? = some (2, 0, [some 18, none]) := by decide +kernel
theorem zb_18 : ZB[18]? = some (7, 0, [some 15, none, some 19, some 20, some 21, none]) := by decide +kernel
theorem zb_19 : ZB[19]? = some (11, 500, []) := by decide +kernel
theorem zb_20 : ZB[20]? = some (11, 500, []) := by decide +kernel
theorem zb_21 : ZB[21]? = some (11, 500, []) := by decide +kernel
theorem zb_22 : ZB[22]? = some (3, 0, [some 23, some 24, some 25, some 26, some 27, none, none, none]) := by decide +kernel
theorem zb_23 : ZB[23]? = some (11, 16, []) := by decide +kernel
theorem zb_24 : ZB[24]? = some (11, 16, []) := by decide +kernel
theorem zb_25 : ZB[25]? = some (11, 4, []) := by decide +kernel
theorem zb_26 : ZB[26]? = some (11, 4, []) := by decide +kernel
theorem zb_27 : ZB[27]? = some (11, 4, []) := by decide +kernel
theorem zBay {b : Nat} (h : b < 16) : ZB[28 + b]? = some (0, 0, [none, none, none, none, none, none, none]) := (by decide +kernel : ∀ b, b < 16 → ZB[28 + b]? = some (0, 0, [none, none, none, none, none, none, none])) b h
theorem zStk {b : Nat} (h : b < 10) : ZB[44 + b]? = some (5, 0, [none, none, none, none, none, none, none, none, none]) := (by decide +kernel : ∀ b, b < 10 → ZB[44 + b]? = some (5, 0, [none, none, none, none, none, none, none, none, none])) b h
theorem eBay {b : Nat} (h : b < 16) : List.getD [some 28, some 29, some 30, some 31, some 32, some 33, some 34, some 35, some 36, some 37, some 38, some 39, some 40, some 41, some 42, some 43] b none = some (28 + b) := (by decide +kernel : ∀ b, b < 16 → List.getD [some 28, some 29, some 30, some 31, some 32, some 33, some 34, some 35, some 36, some 37, some 38, some 39, some 40, some 41, some 42, some 43] b (none : Option Nat) = some (28 + b)) b h
theorem eStk {b : Nat} (h : b < 10) : List.getD [some 44, some 45, some 46, some 47, some 48, some 49, some 50, some 51, some 52, some 53] b none = some (44 + b) := (by decide +kernel : ∀ b, b < 10 → List.getD [some 44, some 45, some 46, some 47, some 48, some 49, some 50, some 51, some 52, some 53] b (none : Option Nat) = some (44 + b)) b h
theorem eLaw {b : Nat} (h : b < 8) : List.getD [some 54, some 64, some 74, some 84, some 94, some 104, some 114, some 124] b none = some (54 + 10 * b) := (by decide +kernel : ∀ b, b < 8 → List.getD [some 54, some 64, some 74, some 84, some 94, some 104, some 114, some 124] b (none : Option Nat) = some (54 + 10 * b)) b h
def LawZ (i : Nat) : Prop := i = 4 ∨ ∃ b, b < 8 ∧ i = 54 + 10 * b
theorem zNo : LawZ 4 := Or.inl rfl
theorem zLw {b : Nat} (h : b < 8) : LawZ (54 + 10 * b) := Or.inr ⟨b, h, rfl⟩
theorem zL {i : Nat} (h : LawZ i) : ZB[i]? = some (1, 0, [none, none, none, none, none, some (i + 1), some (i + 2), some (i + 3), some (i + 4), none, some (i + 5), some (i + 6), some (i + 7), some (i + 8), some (i + 9)]) := by
  rcases h with rfl | ⟨b, hb, rfl⟩
  · decide +kernel
  · exact (by decide +kernel : ∀ b, b < 8 → ZB[54 + 10 * b]? = some (1, 0, [none, none, none, none, none, some (54 + 10 * b + 1), some (54 + 10 * b + 2), some (54 + 10 * b + 3), some (54 + 10 * b + 4), none, some (54 + 10 * b + 5), some (54 + 10 * b + 6), some (54 + 10 * b + 7), some (54 + 10 * b + 8), some (54 + 10 * b + 9)])) b hb
theorem zLa_1 {i : Nat} (h : LawZ i) : ZB[i + 1]? = some (11, 16, []) := by
  rcases h with rfl | ⟨b, hb, rfl⟩
  · decide +kernel
  · exact (by decide +kernel : ∀ b, b < 8 → ZB[54 + 10 * b + 1]? = some (11, 16, [])) b hb
theorem zLa_2 {i : Nat} (h : LawZ i) : ZB[i + 2]? = some (11, 16, []) := by
  rcases h with rfl | ⟨b, hb, rfl⟩
  · decide +kernel
  · exact (by decide +kernel : ∀ b, b < 8 → ZB[54 + 10 * b + 2]? = some (11, 16, [])) b hb
theorem zLa_3 {i : Nat} (h : LawZ i) : ZB[i + 3]? = some (11, 16, []) := by
  rcases h with rfl | ⟨b, hb, rfl⟩
  · decide +kernel
  · exact (by decide +kernel : ∀ b, b < 8 → ZB[54 + 10 * b + 3]? = some (11, 16, [])) b hb
theorem zLa_4 {i : Nat} (h : LawZ i) : ZB[i + 4]? = some (11, 16, []) := by
  rcases h with rfl | ⟨b, hb, rfl⟩
  · decide +kernel
  · exact (by decide +kernel : ∀ b, b < 8 → ZB[54 + 10 * b + 4]? = some (11, 16, [])) b hb
theorem zLa_5 {i : Nat} (h : LawZ i) : ZB[i + 5]? = some (11, 16, []) := by
  rcases h with rfl | ⟨b, hb, rfl⟩
  · decide +kernel
  · exact (by decide +kernel : ∀ b, b < 8 → ZB[54 + 10 * b + 5]? = some (11, 16, [])) b hb
theorem zLa_6 {i : Nat} (h : LawZ i) : ZB[i + 6]? = some (11, 16, []) := by
  rcases h with rfl | ⟨b, hb, rfl⟩
  · decide +kernel
  · exact (by decide +kernel : ∀ b, b < 8 → ZB[54 + 10 * b + 6]? = some (11, 16, [])) b hb
theorem zLa_7 {i : Nat} (h : LawZ i) : ZB[i + 7]? = some (11, 48, []) := by
  rcases h with rfl | ⟨b, hb, rfl⟩
  · decide +kernel
  · exact (by decide +kernel : ∀ b, b < 8 → ZB[54 + 10 * b + 7]? = some (11, 48, [])) b hb
theorem zLa_8 {i : Nat} (h : LawZ i) : ZB[i + 8]? = some (11, 48, []) := by
  rcases h with rfl | ⟨b, hb, rfl⟩
  · decide +kernel
  · exact (by decide +kernel : ∀ b, b < 8 → ZB[54 + 10 * b + 8]? = some (11, 48, [])) b hb
theorem zLa_9 {i : Nat} (h : LawZ i) : ZB[i + 9]? = some (11, 48, []) := by
  rcases h with rfl | ⟨b, hb, rfl⟩
  · decide +kernel
  · exact (by decide +kernel : ∀ b, b < 8 → ZB[54 + 10 * b + 9]? = some (11, 48, [])) b hb
end
section
/-! contracts by a relation of the answer and the ints behind -/
def CtP (l : Launch) (y : MethodName) (cc : ByteArray) (nL : Nat) (ret : Option FieldType) (rm : Room) (D : va_G) (cy : Nat → ClassId) (X : va_W) (ad : Nat → Nat) (Z : ZT) (M : MT) (as : List Value) (post : Option Value → MT → Prop) : Prop := Ctr l y cc nL ret rm D cy X ad Z M as (fun v ad' Z' M1 => ad' = ad ∧ Z' = Z ∧ post v M1)
theorem Ctr.mono {l : Launch} {y : MethodName} {cc : ByteArray} {nL : Nat} {ret : Option FieldType} {rm : Room} {D : va_G} {cy : Nat → ClassId} {X : va_W} {ad : Nat → Nat} {Z : ZT} {M : MT} {as : List Value} {post post2 : Option Value → (Nat → Nat) → ZT → MT → Prop} (h : Ctr l y cc nL ret rm D cy X ad Z M as post) (hp : ∀ v ad' Z' M', post v ad' Z' M' → post2 v ad' Z' M') : Ctr l y cc nL ret rm D cy X ad Z M as post2 := by
  intro sz
  have h1 := h sz
  intro p e ha hc hk s m args below hf happ hP hT
  obtain ⟨k, o, g1, g2, g3, ⟨⟨v, ad', Z', M', e1, e2, e3, e4, e5⟩, g5⟩, g6⟩ := h1 p e ha hc hk s m args below hf happ hP hT
  exact ⟨k, o, g1, g2, g3, ⟨⟨v, ad', Z', M', e1, hp _ _ _ _ e2, e3, e4, e5⟩, g5⟩, g6⟩
section CFp
variable {K : KT} {cc : ByteArray} {own : String} {nL : Nat} {rm : Room} {ad : Nat → Nat} {n1 n2 : Nat} {Z : ZT} {M : MT} {pc : Nat} {lv : List (Nat × Value)} {st : List Value} {y : MethodName} {bytes : ByteArray} {maxL idx n : Nat} {ret : Option FieldType} {rm2 : Room} {As rest : List Value} {post : Option Value → MT → Prop}
theorem V_cVp (f : Fx K cc own nL rm) (hd : decode cc pc = .ok (.invokevirtual idx, 3)) (lk : LK own idx y bytes maxL ret n) (hl1 : Cond.methodLink own idx y ∈ tbG) (hin : Cond.instanceMethod y ∈ tbG) (hse : Cond.selects y.cls y y ∈ tbG) {i ci zn : Nat} {rs : List (Option Nat)} {T : u_T} {N : Nat} (hi : Z[i]? = some (ci, zn, rs)) (hci : ci < 10) (hc : vwCl[ci]? = some (y.cls, T, N)) (hM : CtP (kl K) y bytes maxL ret rm2 (kD K) (ky K) (kX K) ad Z M (.ref (ad i) :: As) post) (hn : As.length = n) (hcat : (rest.map fun v => v.category).sum ≤ 8) (hst : st = As.reverse ++ .ref (ad i) :: rest) (hR : rm2.frames + 1 ≤ rm.frames ∧ 8 + (maxL + 11) + rm2.locals ≤ rm.locals) (hC : n1 ≤ rm.cells ∧ n2 ≤ rm.slots) (z1 : rm2.cells = 0) (z2 : rm2.slots = 0) (kk : ∀ v M1, post v M1 → V K ad n1 n2 Z M1 (pc + 3) lv (v.toList ++ rest)) : V K ad n1 n2 Z M pc lv st := V_callV f hd lk hl1 hin hse hM hi hci hc hn hst hcat hR (by rw [z1, z2]; exact hC) (fun v ad' Z' M1 hp => by obtain ⟨rfl, rfl, hp⟩ := hp; rw [z1, z2]; exact kk v M1 hp)
theorem V_cSp (f : Fx K cc own nL rm) (hd : decode cc pc = .ok (.invokestatic idx, 3)) (lk : LK own idx y bytes maxL ret n) (hl1 : Cond.methodLink own idx y ∈ tbG) (hsta : Cond.static y ∈ tbG) (hM : CtP (kl K) y bytes maxL ret rm2 (kD K) (ky K) (kX K) ad Z M As post) (hn : As.length = n) (hcat : (rest.map fun v => v.category).sum ≤ 8) (hst : st = As.reverse ++ rest) (hR : rm2.frames + 1 ≤ rm.frames ∧ 8 + (maxL + 11) + rm2.locals ≤ rm.locals) (hC : n1 ≤ rm.cells ∧ n2 ≤ rm.slots) (z1 : rm2.cells = 0) (z2 : rm2.slots = 0) (kk : ∀ v M1, post v M1 → V K ad n1 n2 Z M1 (pc + 3) lv (v.toList ++ rest)) : V K ad n1 n2 Z M pc lv st := V_callS f hd lk hl1 hsta hM hn hst hcat hR (by rw [z1, z2]; exact hC) (fun v ad' Z' M1 hp => by obtain ⟨rfl, rfl, hp⟩ := hp; rw [z1, z2]; exact kk v M1 hp)
end CFp
end
section
theorem sw_out {x : Int32} (lo hi : Int) (n : Nat) (l : List Int32) (hh : hi = lo + n - 1) (hl : l.map Int32.toInt = (List.range n).map (fun k : Nat => lo + k)) (h : ∀ y ∈ l, ¬ x = y) : x.toInt < lo ∨ hi < x.toInt := by
  by_cases h1 : x.toInt < lo
  · exact Or.inl h1
  · by_cases h2 : hi < x.toInt
    · exact Or.inr h2
    · have hm : x.toInt ∈ l.map Int32.toInt := by
        rw [hl, List.mem_map]
        exact ⟨(x.toInt - lo).toNat, List.mem_range.mpr (by omega), by omega⟩
      obtain ⟨y, hy, he⟩ := List.mem_map.mp hm
      exact absurd (Int32.toInt_inj.mp he.symm) (h y hy)
theorem vlt {i : Int32} {n : Nat} (h : vp_in i n) : i.toNatClampNeg < n := Nat.not_le.mp fun q => h (Or.inr q)
def s_X0_lies (M : MT) (i : Nat) : Int32 := (if (M i 1) = 0 then 0 else 1)
theorem b_X0_lies (M : MT) (i : Nat) : s_X0_lies M i = 0 ∨ s_X0_lies M i = 1 := by unfold s_X0_lies; first | (repeat' split) <;> simp | (repeat' split) <;> first | exact Or.inl rfl | exact Or.inr rfl | simp [*]
set_option maxHeartbeats 4000000 in
set_option maxRecDepth 100000 in
theorem c_X0_lies (l : Launch) (D : va_G) (cy : Nat → ClassId) (X : va_W) (ad : Nat → Nat) {Z : ZT} (M : MT) (i : Nat) {ni : Nat} {rsi : List (Option Nat)} (hi : Z[i]? = some (0, ni, rsi)) : CtI l yX0_lies cX0_lies 1 .boolean (rK 0) D cy X ad Z M [.ref (ad i)] (s_X0_lies M i) M := by
  refine Ctr.of (by decide +kernel) (Nat.le_of_ble_eq_true rfl) ?_
  intro K f q hnm hl0 hD0 hy0 hX0
  show V K ad 0 0 Z M 0 [(0, .ref (ad i))] []
  refine V_aload_n f dX0_lies_0 0 rfl ?_
  refine V_getE (x := M i 1) f dX0_lies_1 lf_0_15 rfl hi rfl ?_
  refine V_if_eq (tgt := 11) f dX0_lies_4 (by decide) (fun c1 => ?_) (fun c1 => ?_)
  · refine V_iconst (v := 0) f dX0_lies_11 (by decide) ?_
    exact V_iret f q dX0_lies_12 rfl (Nat.zero_le _) (Nat.zero_le _) ⟨rfl, rfl, (by simp only [s_X0_lies, if_pos c1]), rfl⟩
  · refine V_iconst (v := 1) f dX0_lies_7 (by decide) ?_
    refine V_goto (tgt := 12) f dX0_lies_8 (by decide) ?_
    exact V_iret f q dX0_lies_12 rfl (Nat.zero_le _) (Nat.zero_le _) ⟨rfl, rfl, (by simp only [s_X0_lies, if_neg c1]), rfl⟩
def s_X0_loosen (M : MT) (i : Nat) (a : Int32) : MT := (up2 (up2 (up2 (up2 M i 0 ((M i 0) - a)) i 2 (10 * a)) i 3 800) i 1 1)
set_option maxHeartbeats 4000000 in
set_option maxRecDepth 100000 in
theorem c_X0_loosen (l : Launch) (D : va_G) (cy : Nat → ClassId) (X : va_W) (ad : Nat → Nat) {Z : ZT} (M : MT) (i : Nat) (a : Int32) {ni : Nat} {rsi : List (Option Nat)} (hi : Z[i]? = some (0, ni, rsi)) : CtV l yX0_loosen cX0_loosen 2 (rK 0) D cy X ad Z M [.ref (ad i), .int a] (s_X0_loosen M i a) := by
  refine Ctr.of (by decide +kernel) (Nat.le_of_ble_eq_true rfl) ?_
  intro K f q hnm hl0 hD0 hy0 hX0
  show V K ad 0 0 Z M 0 [(0, .ref (ad i)), (1, .int a)] []
  refine V_aload_n f dX0_loosen_0 0 rfl ?_
  refine V_dup f dX0_loosen_1 rfl ?_
  refine V_getE (x := M i 0) f dX0_loosen_2 lf_0_9 rfl hi rfl ?_
  refine V_iload_n f dX0_loosen_5 1 rfl ?_
  refine V_isub f dX0_loosen_6 ?_
  refine V_putI f dX0_loosen_7 lf_0_9 lp_0_0 rfl rfl rfl rfl hi ?_
  refine V_aload_n f dX0_loosen_10 0 rfl ?_
  refine V_bipush (v := 10) f dX0_loosen_11 (by decide) ?_
  refine V_iload_n f dX0_loosen_13 1 rfl ?_
  refine V_imul f dX0_loosen_14 ?_
  refine V_putI f dX0_loosen_15 lf_0_18 lp_0_2 rfl rfl rfl rfl hi ?_
  refine V_aload_n f dX0_loosen_18 0 rfl ?_
  refine V_sipush (v := 800) f dX0_loosen_19 (by decide) ?_
  refine V_putI f dX0_loosen_22 lf_0_21 lp_0_3 rfl rfl rfl rfl hi ?_
  refine V_aload_n f dX0_loosen_25 0 rfl ?_
  refine V_iconst (v := 1) f dX0_loosen_26 (by decide) ?_
  refine V_putI f dX0_loosen_27 lf_0_15 lp_0_1 rfl rfl rfl rfl hi ?_
  exact V_vret f q dX0_loosen_30 (Nat.zero_le _) (Nat.zero_le _) ⟨rfl, rfl, rfl, (by simp only [s_X0_loosen])⟩
def s_X0_takesProbe (M : MT) (i : Nat) : Int32 := (if (s_X0_lies M i) = 0 then 0 else (if 8 ≤ (M i 4) then 0 else 1))
theorem b_X0_takesProbe (M : MT) (i : Nat) : s_X0_takesProbe M i = 0 ∨ s_X0_takesProbe M i = 1 := by unfold s_X0_takesProbe; first | (repeat' split) <;> simp | (repeat' split) <;> first | exact Or.inl rfl | exact Or.inr rfl | simp [*]
set_option maxHeartbeats 4000000 in
set_option maxRecDepth 100000 in
theorem c_X0_takesProbe (l : Launch) (D : va_G) (cy : Nat → ClassId) (X : va_W) (ad : Nat → Nat) {Z : ZT} (M : MT) (i : Nat) {ni : Nat} {rsi : List (Option Nat)} (hi : Z[i]? = some (0, ni, rsi)) : CtI l yX0_takesProbe cX0_takesProbe 1 .boolean (rK 1) D cy X ad Z M [.ref (ad i)] (s_X0_takesProbe M i) M := by
  refine Ctr.of (by decide +kernel) (Nat.le_of_ble_eq_true rfl) ?_
  intro K f q hnm hl0 hD0 hy0 hX0
  show V K ad 0 0 Z M 0 [(0, .ref (ad i))] []
  refine V_aload_n f dX0_takesProbe_0 0 rfl ?_
  refine V_cVi (As := []) (rest := []) f dX0_takesProbe_1 lk_X0_33 ml_X0_33 ins_X0_lies sel_X0_lies hi (by decide) rfl (c_X0_lies (kl K) (kD K) (ky K) (kX K) ad M i hi) rfl (Nat.le_of_ble_eq_true rfl) rfl ⟨by decide, by decide⟩ ⟨Nat.zero_le _, Nat.zero_le _⟩ rfl rfl ?_
  refine V_if_eq (tgt := 20) f dX0_takesProbe_4 (by decide) (fun c1 => ?_) (fun c1 => ?_)
  · refine V_iconst (v := 0) f dX0_takesProbe_20 (by decide) ?_
    exact V_iret f q dX0_takesProbe_21 rfl (Nat.zero_le _) (Nat.zero_le _) ⟨rfl, rfl, (by simp only [s_X0_takesProbe, if_pos c1]), rfl⟩
  · refine V_aload_n f dX0_takesProbe_7 0 rfl ?_
    refine V_getE (x := M i 4) f dX0_takesProbe_8 lf_0_24 rfl hi rfl ?_
    refine V_bipush (v := 8) f dX0_takesProbe_11 (by decide) ?_
    refine V_icmp_ge (tgt := 20) f dX0_takesProbe_13 (by decide) (fun c2 => ?_) (fun c2 => ?_)
    · refine V_iconst (v := 0) f dX0_takesProbe_20 (by decide) ?_
      exact V_iret f q dX0_takesProbe_21 rfl (Nat.zero_le _) (Nat.zero_le _) ⟨rfl, rfl, (by simp only [s_X0_takesProbe, if_neg c1, if_pos c2]), rfl⟩
    · refine V_iconst (v := 1) f dX0_takesProbe_16 (by decide) ?_
      refine V_goto (tgt := 21) f dX0_takesProbe_17 (by decide) ?_
      exact V_iret f q dX0_takesProbe_21 rfl (Nat.zero_le _) (Nat.zero_le _) ⟨rfl, rfl, (by simp only [s_X0_takesProbe, if_neg c1, if_neg c2]), rfl⟩
def s_X0_addProbe (M : MT) (i : Nat) (a : Int32) : Int32 × MT := ((M i 4) + 1, (up2 (up2 M i 5 (if (M i 5) < a then a else (M i 5))) i 4 ((M i 4) + 1)))
set_option maxHeartbeats 4000000 in
set_option maxRecDepth 100000 in
theorem c_X0_addProbe (l : Launch) (D : va_G) (cy : Nat → ClassId) (X : va_W) (ad : Nat → Nat) {Z : ZT} (M : MT) (i : Nat) (a : Int32) {ni : Nat} {rsi : List (Option Nat)} (hi : Z[i]? = some (0, ni, rsi)) : CtI l yX0_addProbe cX0_addProbe 2 .int (rK 1) D cy X ad Z M [.ref (ad i), .int a] (s_X0_addProbe M i a).1 (s_X0_addProbe M i a).2 := by
  refine Ctr.of (by decide +kernel) (Nat.le_of_ble_eq_true rfl) ?_
  intro K f q hnm hl0 hD0 hy0 hX0
  show V K ad 0 0 Z M 0 [(0, .ref (ad i)), (1, .int a)] []
  refine V_aload_n f dX0_addProbe_0 0 rfl ?_
  refine V_aload_n f dX0_addProbe_1 0 rfl ?_
  refine V_getE (x := M i 5) f dX0_addProbe_2 lf_0_27 rfl hi rfl ?_
  refine V_iload_n f dX0_addProbe_5 1 rfl ?_
  refine V_mmax f dX0_addProbe_6 ml_X0_37 ma_max ma_ini mc_max (by decide) (Nat.le_of_ble_eq_true rfl) (Nat.zero_le _) (Nat.zero_le _) ?_
  refine V_putI f dX0_addProbe_9 lf_0_27 lp_0_5 rfl rfl rfl rfl hi ?_
  refine V_aload_n f dX0_addProbe_12 0 rfl ?_
  refine V_dup f dX0_addProbe_13 rfl ?_
  refine V_getE (x := M i 4) f dX0_addProbe_14 lf_0_24 rfl hi (up_k (by decide) rfl) ?_
  refine V_iconst (v := 1) f dX0_addProbe_17 (by decide) ?_
  refine V_iadd f dX0_addProbe_18 ?_
  refine V_putI f dX0_addProbe_19 lf_0_24 lp_0_4 rfl rfl rfl rfl hi ?_
  refine V_aload_n f dX0_addProbe_22 0 rfl ?_
  refine V_getE (x := (M i 4) + 1) f dX0_addProbe_23 lf_0_24 rfl hi up_s ?_
  exact V_iret f q dX0_addProbe_26 rfl (Nat.zero_le _) (Nat.zero_le _) ⟨rfl, rfl, (by simp only [s_X0_addProbe]), (by simp only [s_X0_addProbe])⟩
def s_X0_clear (M : MT) (i : Nat) : MT := (up2 (up2 (up2 (up2 M i 6 ((M i 6) + (M i 2))) i 1 0) i 2 0) i 3 0)
set_option maxHeartbeats 4000000 in
set_option maxRecDepth 100000 in
theorem c_X0_clear (l : Launch) (D : va_G) (cy : Nat → ClassId) (X : va_W) (ad : Nat → Nat) {Z : ZT} (M : MT) (i : Nat) {ni : Nat} {rsi : List (Option Nat)} (hi : Z[i]? = some (0, ni, rsi)) : CtV l yX0_clear cX0_clear 1 (rK 0) D cy X ad Z M [.ref (ad i)] (s_X0_clear M i) := by
  refine Ctr.of (by decide +kernel) (Nat.le_of_ble_eq_true rfl) ?_
  intro K f q hnm hl0 hD0 hy0 hX0
  show V K ad 0 0 Z M 0 [(0, .ref (ad i))] []
  refine V_aload_n f dX0_clear_0 0 rfl ?_
  refine V_dup f dX0_clear_1 rfl ?_
  refine V_getE (x := M i 6) f dX0_clear_2 lf_0_30 rfl hi rfl ?_
  refine V_aload_n f dX0_clear_5 0 rfl ?_
  refine V_getE (x := M i 2) f dX0_clear_6 lf_0_18 rfl hi rfl ?_
  refine V_iadd f dX0_clear_9 ?_
  refine V_putI f dX0_clear_10 lf_0_30 lp_0_6 rfl rfl rfl rfl hi ?_
  refine V_aload_n f dX0_clear_13 0 rfl ?_
  refine V_iconst (v := 0) f dX0_clear_14 (by decide) ?_
  refine V_putI f dX0_clear_15 lf_0_15 lp_0_1 rfl rfl rfl rfl hi ?_
  refine V_aload_n f dX0_clear_18 0 rfl ?_
  refine V_iconst (v := 0) f dX0_clear_19 (by decide) ?_
  refine V_putI f dX0_clear_20 lf_0_18 lp_0_2 rfl rfl rfl rfl hi ?_
  refine V_aload_n f dX0_clear_23 0 rfl ?_
  refine V_iconst (v := 0) f dX0_clear_24 (by decide) ?_
  refine V_putI f dX0_clear_25 lf_0_21 lp_0_3 rfl rfl rfl rfl hi ?_
  exact V_vret f q dX0_clear_28 (Nat.zero_le _) (Nat.zero_le _) ⟨rfl, rfl, rfl, (by simp only [s_X0_clear])⟩
def s_X0_tellOf (M : MT) (i : Nat) (a : Int32) : Int32 := (if a = 0 then (M i 0) else (if a = 1 then (M i 1) else (if a = 2 then (M i 2) else (if a = 3 then (M i 3) else (if a = 4 then (M i 4) else (if a = 5 then (M i 5) else (if a = 6 then (M i 6) else (-1))))))))
set_option maxHeartbeats 4000000 in
set_option maxRecDepth 100000 in
theorem c_X0_tellOf (l : Launch) (D : va_G) (cy : Nat → ClassId) (X : va_W) (ad : Nat → Nat) {Z : ZT} (M : MT) (i : Nat) (a : Int32) {ni : Nat} {rsi : List (Option Nat)} (hi : Z[i]? = some (0, ni, rsi)) : CtI l yX0_tellOf cX0_tellOf 2 .int (rK 0) D cy X ad Z M [.ref (ad i), .int a] (s_X0_tellOf M i a) M := by
  refine Ctr.of (by decide +kernel) (Nat.le_of_ble_eq_true rfl) ?_
  intro K f q hnm hl0 hD0 hy0 hX0
  show V K ad 0 0 Z M 0 [(0, .ref (ad i)), (1, .int a)] []
  refine V_iload_n f dX0_tellOf_0 1 rfl ?_
  rcases Decidable.em (a = 0) with c1 | c1
  · refine V_tableIn (off := 43) (tgt := 44) f dX0_tellOf_1 (by rw [c1]; decide) (by rw [c1]; decide) (by rw [c1]; decide) (by decide) ?_
    refine V_aload_n f dX0_tellOf_44 0 rfl ?_
    refine V_getE (x := M i 0) f dX0_tellOf_45 lf_0_9 rfl hi rfl ?_
    exact V_iret f q dX0_tellOf_48 rfl (Nat.zero_le _) (Nat.zero_le _) ⟨rfl, rfl, (by simp only [s_X0_tellOf, if_pos c1]), rfl⟩
  rcases Decidable.em (a = 1) with c2 | c2
  · refine V_tableIn (off := 48) (tgt := 49) f dX0_tellOf_1 (by rw [c2]; decide) (by rw [c2]; decide) (by rw [c2]; decide) (by decide) ?_
    refine V_aload_n f dX0_tellOf_49 0 rfl ?_
    refine V_getE (x := M i 1) f dX0_tellOf_50 lf_0_15 rfl hi rfl ?_
    exact V_iret f q dX0_tellOf_53 rfl (Nat.zero_le _) (Nat.zero_le _) ⟨rfl, rfl, (by simp only [s_X0_tellOf, if_neg c1, if_pos c2]), rfl⟩
  rcases Decidable.em (a = 2) with c3 | c3
  · refine V_tableIn (off := 53) (tgt := 54) f dX0_tellOf_1 (by rw [c3]; decide) (by rw [c3]; decide) (by rw [c3]; decide) (by decide) ?_
    refine V_aload_n f dX0_tellOf_54 0 rfl ?_
    refine V_getE (x := M i 2) f dX0_tellOf_55 lf_0_18 rfl hi rfl ?_
    exact V_iret f q dX0_tellOf_58 rfl (Nat.zero_le _) (Nat.zero_le _) ⟨rfl, rfl, (by simp only [s_X0_tellOf, if_neg c1, if_neg c2, if_pos c3]), rfl⟩
  rcases Decidable.em (a = 3) with c4 | c4
  · refine V_tableIn (off := 58) (tgt := 59) f dX0_tellOf_1 (by rw [c4]; decide) (by rw [c4]; decide) (by rw [c4]; decide) (by decide) ?_
    refine V_aload_n f dX0_tellOf_59 0 rfl ?_
    refine V_getE (x := M i 3) f dX0_tellOf_60 lf_0_21 rfl hi rfl ?_
    exact V_iret f q dX0_tellOf_63 rfl (Nat.zero_le _) (Nat.zero_le _) ⟨rfl, rfl, (by simp only [s_X0_tellOf, if_neg c1, if_neg c2, if_neg c3, if_pos c4]), rfl⟩
  rcases Decidable.em (a = 4) with c5 | c5
  · refine V_tableIn (off := 63) (tgt := 64) f dX0_tellOf_1 (by rw [c5]; decide) (by rw [c5]; decide) (by rw [c5]; decide) (by decide) ?_
    refine V_aload_n f dX0_tellOf_64 0 rfl ?_
    refine V_getE (x := M i 4) f dX0_tellOf_65 lf_0_24 rfl hi rfl ?_
    exact V_iret f q dX0_tellOf_68 rfl (Nat.zero_le _) (Nat.zero_le _) ⟨rfl, rfl, (by simp only [s_X0_tellOf, if_neg c1, if_neg c2, if_neg c3, if_neg c4, if_pos c5]), rfl⟩
  rcases Decidable.em (a = 5) with c6 | c6
  · refine V_tableIn (off := 68) (tgt := 69) f dX0_tellOf_1 (by rw [c6]; decide) (by rw [c6]; decide) (by rw [c6]; decide) (by decide) ?_
    refine V_aload_n f dX0_tellOf_69 0 rfl ?_
    refine V_getE (x := M i 5) f dX0_tellOf_70 lf_0_27 rfl hi rfl ?_
    exact V_iret f q dX0_tellOf_73 rfl (Nat.zero_le _) (Nat.zero_le _) ⟨rfl, rfl, (by simp only [s_X0_tellOf, if_neg c1, if_neg c2, if_neg c3, if_neg c4, if_neg c5, if_pos c6]), rfl⟩
  rcases Decidable.em (a = 6) with c7 | c7
  · refine V_tableIn (off := 73) (tgt := 74) f dX0_tellOf_1 (by rw [c7]; decide) (by rw [c7]; decide) (by rw [c7]; decide) (by decide) ?_
    refine V_aload_n f dX0_tellOf_74 0 rfl ?_
    refine V_getE (x := M i 6) f dX0_tellOf_75 lf_0_30 rfl hi rfl ?_
    exact V_iret f q dX0_tellOf_78 rfl (Nat.zero_le _) (Nat.zero_le _) ⟨rfl, rfl, (by simp only [s_X0_tellOf, if_neg c1, if_neg c2, if_neg c3, if_neg c4, if_neg c5, if_neg c6, if_pos c7]), rfl⟩
  refine V_tableOut (tgt := 79) f dX0_tellOf_1 (sw_out 0 6 7 [0, 1, 2, 3, 4, 5, 6] (by decide) (by decide) (List.forall_mem_cons.mpr ⟨c1, (List.forall_mem_cons.mpr ⟨c2, (List.forall_mem_cons.mpr ⟨c3, (List.forall_mem_cons.mpr ⟨c4, (List.forall_mem_cons.mpr ⟨c5, (List.forall_mem_cons.mpr ⟨c6, (List.forall_mem_cons.mpr ⟨c7, (fun _ h => absurd h List.not_mem_nil)⟩)⟩)⟩)⟩)⟩)⟩)⟩)) (by decide) ?_
  refine V_iconst (v := (-1)) f dX0_tellOf_79 (by decide) ?_
  exact V_iret f q dX0_tellOf_80 rfl (Nat.zero_le _) (Nat.zero_le _) ⟨rfl, rfl, (by simp only [s_X0_tellOf, if_neg c1, if_neg c2, if_neg c3, if_neg c4, if_neg c5, if_neg c6, if_neg c7]), rfl⟩
end
section
theorem nz_of_nle {x : Int32} (h : ¬ x ≤ 0) : ¬ x = 0 := fun e => h (by rw [e]; decide)
theorem vin_of {x c : Int32} {n : Nat} (h1 : 0 ≤ x) (h2 : x < c) (hc : c.toInt ≤ n) : vp_in x n := by
  rw [vp_in_iff]
  have a1 := Int32.le_iff_toInt_le.mp h1
  have a2 := Int32.lt_iff_toInt_lt.mp h2
  have e0 : (0 : Int32).toInt = 0 := by decide
  omega
theorem vin_of' {x c : Int32} {n : Nat} (h1 : ¬ x < 0) (h2 : ¬ c ≤ x) (hc : c.toInt ≤ n) : vp_in x n := vin_of (Int32.not_lt.mp h1) (Int32.not_le.mp h2) hc
theorem i32_add {x : Int32} {k : Int32} (h0 : 0 ≤ x.toInt) (h1 : x.toInt ≤ 100000) (k0 : 0 ≤ k.toInt) (k1 : k.toInt ≤ 1000) : (x + k).toInt = x.toInt + k.toInt := by
  rw [Int32.toInt_add, Int.bmod_eq_of_le (by omega) (by omega)]
def s_X5_takesPeat (M : MT) (i : Nat) : Int32 := (if (M i 4) = 0 then (if (M i 8) = 0 then 1 else 0) else 0)
theorem b_X5_takesPeat (M : MT) (i : Nat) : s_X5_takesPeat M i = 0 ∨ s_X5_takesPeat M i = 1 := by unfold s_X5_takesPeat; first | (repeat' split) <;> simp | (repeat' split) <;> first | exact Or.inl rfl | exact Or.inr rfl | simp [*]
set_option maxHeartbeats 4000000 in
set_option maxRecDepth 100000 in
theorem c_X5_takesPeat (l : Launch) (D : va_G) (cy : Nat → ClassId) (X : va_W) (ad : Nat → Nat) {Z : ZT} (M : MT) (i : Nat) {ni : Nat} {rsi : List (Option Nat)} (hi : Z[i]? = some (5, ni, rsi)) : CtI l yX5_takesPeat cX5_takesPeat 1 .boolean (rK 0) D cy X ad Z M [.ref (ad i)] (s_X5_takesPeat M i) M := by
  refine Ctr.of (by decide +kernel) (Nat.le_of_ble_eq_true rfl) ?_
  intro K f q hnm hl0 hD0 hy0 hX0
  show V K ad 0 0 Z M 0 [(0, .ref (ad i))] []
  refine V_aload_n f dX5_takesPeat_0 0 rfl ?_
  refine V_getE (x := M i 4) f dX5_takesPeat_1 lf_5_24 rfl hi rfl ?_
  refine V_if_ne (tgt := 18) f dX5_takesPeat_4 (by decide) (fun c1 => ?_) (fun c1 => ?_)
  · refine V_iconst (v := 0) f dX5_takesPeat_18 (by decide) ?_
    exact V_iret f q dX5_takesPeat_19 rfl (Nat.zero_le _) (Nat.zero_le _) ⟨rfl, rfl, (by simp only [s_X5_takesPeat, if_neg c1]), rfl⟩
  · refine V_aload_n f dX5_takesPeat_7 0 rfl ?_
    refine V_getE (x := M i 8) f dX5_takesPeat_8 lf_5_37 rfl hi rfl ?_
    refine V_if_ne (tgt := 18) f dX5_takesPeat_11 (by decide) (fun c2 => ?_) (fun c2 => ?_)
    · refine V_iconst (v := 0) f dX5_takesPeat_18 (by decide) ?_
      exact V_iret f q dX5_takesPeat_19 rfl (Nat.zero_le _) (Nat.zero_le _) ⟨rfl, rfl, (by simp only [s_X5_takesPeat, if_pos c1, if_neg c2]), rfl⟩
    · refine V_iconst (v := 1) f dX5_takesPeat_14 (by decide) ?_
      refine V_goto (tgt := 19) f dX5_takesPeat_15 (by decide) ?_
      exact V_iret f q dX5_takesPeat_19 rfl (Nat.zero_le _) (Nat.zero_le _) ⟨rfl, rfl, (by simp only [s_X5_takesPeat, if_pos c1, if_pos c2]), rfl⟩
def s_X5_add (M : MT) (i : Nat) (a : Int32) (b : Int32) : MT := (if ((M i 0) + a) ≤ 0 then (up2 M i 0 ((M i 0) + a)) else (up2 (up2 M i 1 ((((M i 0) * (M i 1)) + (a * b)) / ((M i 0) + a))) i 0 ((M i 0) + a)))
set_option maxHeartbeats 4000000 in
set_option maxRecDepth 100000 in
theorem c_X5_add (l : Launch) (D : va_G) (cy : Nat → ClassId) (X : va_W) (ad : Nat → Nat) {Z : ZT} (M : MT) (i : Nat) (a : Int32) (b : Int32) {ni : Nat} {rsi : List (Option Nat)} (hi : Z[i]? = some (5, ni, rsi)) : CtV l yX5_add cX5_add 4 (rK 0) D cy X ad Z M [.ref (ad i), .int a, .int b] (s_X5_add M i a b) := by
  refine Ctr.of (by decide +kernel) (Nat.le_of_ble_eq_true rfl) ?_
  intro K f q hnm hl0 hD0 hy0 hX0
  show V K ad 0 0 Z M 0 [(0, .ref (ad i)), (1, .int a), (2, .int b)] []
  refine V_aload_n f dX5_add_0 0 rfl ?_
  refine V_getE (x := M i 0) f dX5_add_1 lf_5_9 rfl hi rfl ?_
  refine V_iload_n f dX5_add_4 1 rfl ?_
  refine V_iadd f dX5_add_5 ?_
  refine V_istore_n f dX5_add_6 rfl (by decide) rfl ?_
  refine V_iload_n f dX5_add_7 0 rfl ?_
  refine V_if_le (tgt := 30) f dX5_add_8 (by decide) (fun c1 => ?_) (fun c1 => ?_)
  · refine V_aload_n f dX5_add_30 1 rfl ?_
    refine V_iload_n f dX5_add_31 0 rfl ?_
    refine V_putI f dX5_add_32 lf_5_9 lp_5_0 rfl rfl rfl rfl hi ?_
    exact V_vret f q dX5_add_35 (Nat.zero_le _) (Nat.zero_le _) ⟨rfl, rfl, rfl, (by simp only [s_X5_add, if_pos c1])⟩
  · refine V_aload_n f dX5_add_11 1 rfl ?_
    refine V_aload_n f dX5_add_12 1 rfl ?_
    refine V_getE (x := M i 0) f dX5_add_13 lf_5_9 rfl hi rfl ?_
    refine V_aload_n f dX5_add_16 1 rfl ?_
    refine V_getE (x := M i 1) f dX5_add_17 lf_5_15 rfl hi rfl ?_
    refine V_imul f dX5_add_20 ?_
    refine V_iload_n f dX5_add_21 2 rfl ?_
    refine V_iload_n f dX5_add_22 3 rfl ?_
    refine V_imul f dX5_add_23 ?_
    refine V_iadd f dX5_add_24 ?_
    refine V_iload_n f dX5_add_25 0 rfl ?_
    refine V_idiv f dX5_add_26 (nz_of_nle c1) ?_
    refine V_putI f dX5_add_27 lf_5_15 lp_5_1 rfl rfl rfl rfl hi ?_
    refine V_aload_n f dX5_add_30 1 rfl ?_
    refine V_iload_n f dX5_add_31 0 rfl ?_
    refine V_putI f dX5_add_32 lf_5_9 lp_5_0 rfl rfl rfl rfl hi ?_
    exact V_vret f q dX5_add_35 (Nat.zero_le _) (Nat.zero_le _) ⟨rfl, rfl, rfl, (by simp only [s_X5_add, if_neg c1])⟩
def s_X5_glow (M : MT) (i : Nat) (a : Int32) (b : Int32) : Int32 × MT := (if 0 < (M i 0) then (if (M i 4) = 0 then (if (M i 1) ≤ 500 then (if a ≤ 20 then (if (if (if 10 < (((((M i 2) + 1) + ((M i 0) / 500)) + 0) - 0) then (((((M i 2) + 1) + ((M i 0) / 500)) + 0) - 0) else 10) < 100 then (if 10 < (((((M i 2) + 1) + ((M i 0) / 500)) + 0) - 0) then (((((M i 2) + 1) + ((M i 0) / 500)) + 0) - 0) else 10) else 100) = 100 then (0, (up2 (up2 (up2 M i 2 (if (if 10 < (((((M i 2) + 1) + ((M i 0) / 500)) + 0) - 0) then (((((M i 2) + 1) + ((M i 0) / 500)) + 0) - 0) else 10) < 100 then (if 10 < (((((M i 2) + 1) + ((M i 0) / 500)) + 0) - 0) then (((((M i 2) + 1) + ((M i 0) / 500)) + 0) - 0) else 10) else 100)) i 4 1) i 6 b)) else (0, (up2 M i 2 (if (if 10 < (((((M i 2) + 1) + ((M i 0) / 500)) + 0) - 0) then (((((M i 2) + 1) + ((M i 0) / 500)) + 0) - 0) else 10) < 100 then (if 10 < (((((M i 2) + 1) + ((M i 0) / 500)) + 0) - 0) then (((((M i 2) + 1) + ((M i 0) / 500)) + 0) - 0) else 10) else 100)))) else (if (if (if 10 < (((((M i 2) + 1) + ((M i 0) / 500)) + 0) - 3) then (((((M i 2) + 1) + ((M i 0) / 500)) + 0) - 3) else 10) < 100 then (if 10 < (((((M i 2) + 1) + ((M i 0) / 500)) + 0) - 3) then (((((M i 2) + 1) + ((M i 0) / 500)) + 0) - 3) else 10) else 100) = 100 then (0, (up2 (up2 (up2 M i 2 (if (if 10 < (((((M i 2) + 1) + ((M i 0) / 500)) + 0) - 3) then (((((M i 2) + 1) + ((M i 0) / 500)) + 0) - 3) else 10) < 100 then (if 10 < (((((M i 2) + 1) + ((M i 0) / 500)) + 0) - 3) then (((((M i 2) + 1) + ((M i 0) / 500)) + 0) - 3) else 10) else 100)) i 4 1) i 6 b)) else (0, (up2 M i 2 (if (if 10 < (((((M i 2) + 1) + ((M i 0) / 500)) + 0) - 3) then (((((M i 2) + 1) + ((M i 0) / 500)) + 0) - 3) else 10) < 100 then (if 10 < (((((M i 2) + 1) + ((M i 0) / 500)) + 0) - 3) then (((((M i 2) + 1) + ((M i 0) / 500)) + 0) - 3) else 10) else 100))))) else (if a ≤ 20 then (if (if (if 10 < (((((M i 2) + 1) + ((M i 0) / 500)) + 2) - 0) then (((((M i 2) + 1) + ((M i 0) / 500)) + 2) - 0) else 10) < 100 then (if 10 < (((((M i 2) + 1) + ((M i 0) / 500)) + 2) - 0) then (((((M i 2) + 1) + ((M i 0) / 500)) + 2) - 0) else 10) else 100) = 100 then (0, (up2 (up2 (up2 M i 2 (if (if 10 < (((((M i 2) + 1) + ((M i 0) / 500)) + 2) - 0) then (((((M i 2) + 1) + ((M i 0) / 500)) + 2) - 0) else 10) < 100 then (if 10 < (((((M i 2) + 1) + ((M i 0) / 500)) + 2) - 0) then (((((M i 2) + 1) + ((M i 0) / 500)) + 2) - 0) else 10) else 100)) i 4 1) i 6 b)) else (0, (up2 M i 2 (if (if 10 < (((((M i 2) + 1) + ((M i 0) / 500)) + 2) - 0) then (((((M i 2) + 1) + ((M i 0) / 500)) + 2) - 0) else 10) < 100 then (if 10 < (((((M i 2) + 1) + ((M i 0) / 500)) + 2) - 0) then (((((M i 2) + 1) + ((M i 0) / 500)) + 2) - 0) else 10) else 100)))) else (if (if (if 10 < (((((M i 2) + 1) + ((M i 0) / 500)) + 2) - 3) then (((((M i 2) + 1) + ((M i 0) / 500)) + 2) - 3) else 10) < 100 then (if 10 < (((((M i 2) + 1) + ((M i 0) / 500)) + 2) - 3) then (((((M i 2) + 1) + ((M i 0) / 500)) + 2) - 3) else 10) else 100) = 100 then (0, (up2 (up2 (up2 M i 2 (if (if 10 < (((((M i 2) + 1) + ((M i 0) / 500)) + 2) - 3) then (((((M i 2) + 1) + ((M i 0) / 500)) + 2) - 3) else 10) < 100 then (if 10 < (((((M i 2) + 1) + ((M i 0) / 500)) + 2) - 3) then (((((M i 2) + 1) + ((M i 0) / 500)) + 2) - 3) else 10) else 100)) i 4 1) i 6 b)) else (0, (up2 M i 2 (if (if 10 < (((((M i 2) + 1) + ((M i 0) / 500)) + 2) - 3) then (((((M i 2) + 1) + ((M i 0) / 500)) + 2) - 3) else 10) < 100 then (if 10 < (((((M i 2) + 1) + ((M i 0) / 500)) + 2) - 3) then (((((M i 2) + 1) + ((M i 0) / 500)) + 2) - 3) else 10) else 100)))))) else (if 1 < ((M i 0) / 10) then ((M i 0) / 10) else 1, (up2 M i 0 ((M i 0) - (if 1 < ((M i 0) / 10) then ((M i 0) / 10) else 1))))) else (0, M))
set_option maxHeartbeats 4000000 in
set_option maxRecDepth 100000 in
theorem c_X5_glow (l : Launch) (D : va_G) (cy : Nat → ClassId) (X : va_W) (ad : Nat → Nat) {Z : ZT} (M : MT) (i : Nat) (a : Int32) (b : Int32) {ni : Nat} {rsi : List (Option Nat)} (hi : Z[i]? = some (5, ni, rsi)) : CtI l yX5_glow cX5_glow 4 .int (rK 1) D cy X ad Z M [.ref (ad i), .int a, .int b] (s_X5_glow M i a b).1 (s_X5_glow M i a b).2 := by
  refine Ctr.of (by decide +kernel) (Nat.le_of_ble_eq_true rfl) ?_
  intro K f q hnm hl0 hD0 hy0 hX0
  show V K ad 0 0 Z M 0 [(0, .ref (ad i)), (1, .int a), (2, .int b)] []
  refine V_aload_n f dX5_glow_0 0 rfl ?_
  refine V_getE (x := M i 0) f dX5_glow_1 lf_5_9 rfl hi rfl ?_
  refine V_if_gt (tgt := 9) f dX5_glow_4 (by decide) (fun c1 => ?_) (fun c1 => ?_)
  · refine V_aload_n f dX5_glow_9 0 rfl ?_
    refine V_getE (x := M i 4) f dX5_glow_10 lf_5_24 rfl hi rfl ?_
    refine V_if_eq (tgt := 40) f dX5_glow_13 (by decide) (fun c2 => ?_) (fun c2 => ?_)
    · refine V_aload_n f dX5_glow_40 0 rfl ?_
      refine V_getE (x := M i 2) f dX5_glow_41 lf_5_18 rfl hi rfl ?_
      refine V_iconst (v := 1) f dX5_glow_44 (by decide) ?_
      refine V_iadd f dX5_glow_45 ?_
      refine V_aload_n f dX5_glow_46 0 rfl ?_
      refine V_getE (x := M i 0) f dX5_glow_47 lf_5_9 rfl hi rfl ?_
      refine V_sipush (v := 500) f dX5_glow_50 (by decide) ?_
      refine V_idiv f dX5_glow_53 (by decide) ?_
      refine V_iadd f dX5_glow_54 ?_
      refine V_aload_n f dX5_glow_55 0 rfl ?_
      refine V_getE (x := M i 1) f dX5_glow_56 lf_5_15 rfl hi rfl ?_
      refine V_sipush (v := 500) f dX5_glow_59 (by decide) ?_
      refine V_icmp_le (tgt := 69) f dX5_glow_62 (by decide) (fun c3 => ?_) (fun c3 => ?_)
      · refine V_iconst (v := 0) f dX5_glow_69 (by decide) ?_
        refine V_iadd f dX5_glow_70 ?_
        refine V_iload_n f dX5_glow_71 1 rfl ?_
        refine V_bipush (v := 20) f dX5_glow_72 (by decide) ?_
        refine V_icmp_le (tgt := 81) f dX5_glow_74 (by decide) (fun c4 => ?_) (fun c4 => ?_)
        · refine V_iconst (v := 0) f dX5_glow_81 (by decide) ?_
          refine V_isub f dX5_glow_82 ?_
          refine V_istore_n f dX5_glow_83 rfl (by decide) rfl ?_
          refine V_aload_n f dX5_glow_84 1 rfl ?_
          refine V_bipush (v := 100) f dX5_glow_85 (by decide) ?_
          refine V_bipush (v := 10) f dX5_glow_87 (by decide) ?_
          refine V_iload_n f dX5_glow_89 0 rfl ?_
          refine V_mmax f dX5_glow_90 ml_X5_40 ma_max ma_ini mc_max (by decide) (Nat.le_of_ble_eq_true rfl) (Nat.zero_le _) (Nat.zero_le _) ?_
          refine V_mmin f dX5_glow_93 ml_X5_46 ma_min ma_ini mc_min (by decide) (Nat.le_of_ble_eq_true rfl) (Nat.zero_le _) (Nat.zero_le _) ?_
          refine V_putI f dX5_glow_96 lf_5_18 lp_5_2 rfl rfl rfl rfl hi ?_
          refine V_aload_n f dX5_glow_99 1 rfl ?_
          refine V_getE (x := if (if 10 < (((((M i 2) + 1) + ((M i 0) / 500)) + 0) - 0) then (((((M i 2) + 1) + ((M i 0) / 500)) + 0) - 0) else 10) < 100 then (if 10 < (((((M i 2) + 1) + ((M i 0) / 500)) + 0) - 0) then (((((M i 2) + 1) + ((M i 0) / 500)) + 0) - 0) else 10) else 100) f dX5_glow_100 lf_5_18 rfl hi up_s ?_
          refine V_bipush (v := 100) f dX5_glow_103 (by decide) ?_
          refine V_icmp_ne (tgt := 118) f dX5_glow_105 (by decide) (fun c5 => ?_) (fun c5 => ?_)
          · refine V_iconst (v := 0) f dX5_glow_118 (by decide) ?_
            exact V_iret f q dX5_glow_119 rfl (Nat.zero_le _) (Nat.zero_le _) ⟨rfl, rfl, (by simp only [s_X5_glow, if_pos c1, if_pos c2, if_pos c3, if_pos c4, if_neg c5]), (by simp only [s_X5_glow, if_pos c1, if_pos c2, if_pos c3, if_pos c4, if_neg c5])⟩
          · refine V_aload_n f dX5_glow_108 1 rfl ?_
            refine V_iconst (v := 1) f dX5_glow_109 (by decide) ?_
            refine V_putI f dX5_glow_110 lf_5_24 lp_5_4 rfl rfl rfl rfl hi ?_
            refine V_aload_n f dX5_glow_113 1 rfl ?_
            refine V_iload_n f dX5_glow_114 3 rfl ?_
            refine V_putI f dX5_glow_115 lf_5_31 lp_5_6 rfl rfl rfl rfl hi ?_
            refine V_iconst (v := 0) f dX5_glow_118 (by decide) ?_
            exact V_iret f q dX5_glow_119 rfl (Nat.zero_le _) (Nat.zero_le _) ⟨rfl, rfl, (by simp only [s_X5_glow, if_pos c1, if_pos c2, if_pos c3, if_pos c4, if_pos c5]), (by simp only [s_X5_glow, if_pos c1, if_pos c2, if_pos c3, if_pos c4, if_pos c5])⟩
        · refine V_iconst (v := 3) f dX5_glow_77 (by decide) ?_
          refine V_goto (tgt := 82) f dX5_glow_78 (by decide) ?_
          refine V_isub f dX5_glow_82 ?_
          refine V_istore_n f dX5_glow_83 rfl (by decide) rfl ?_
          refine V_aload_n f dX5_glow_84 1 rfl ?_
          refine V_bipush (v := 100) f dX5_glow_85 (by decide) ?_
          refine V_bipush (v := 10) f dX5_glow_87 (by decide) ?_
          refine V_iload_n f dX5_glow_89 0 rfl ?_
          refine V_mmax f dX5_glow_90 ml_X5_40 ma_max ma_ini mc_max (by decide) (Nat.le_of_ble_eq_true rfl) (Nat.zero_le _) (Nat.zero_le _) ?_
          refine V_mmin f dX5_glow_93 ml_X5_46 ma_min ma_ini mc_min (by decide) (Nat.le_of_ble_eq_true rfl) (Nat.zero_le _) (Nat.zero_le _) ?_
          refine V_putI f dX5_glow_96 lf_5_18 lp_5_2 rfl rfl rfl rfl hi ?_
          refine V_aload_n f dX5_glow_99 1 rfl ?_
          refine V_getE (x := if (if 10 < (((((M i 2) + 1) + ((M i 0) / 500)) + 0) - 3) then (((((M i 2) + 1) + ((M i 0) / 500)) + 0) - 3) else 10) < 100 then (if 10 < (((((M i 2) + 1) + ((M i 0) / 500)) + 0) - 3) then (((((M i 2) + 1) + ((M i 0) / 500)) + 0) - 3) else 10) else 100) f dX5_glow_100 lf_5_18 rfl hi up_s ?_
          refine V_bipush (v := 100) f dX5_glow_103 (by decide) ?_
          refine V_icmp_ne (tgt := 118) f dX5_glow_105 (by decide) (fun c6 => ?_) (fun c6 => ?_)
          · refine V_iconst (v := 0) f dX5_glow_118 (by decide) ?_
            exact V_iret f q dX5_glow_119 rfl (Nat.zero_le _) (Nat.zero_le _) ⟨rfl, rfl, (by simp only [s_X5_glow, if_pos c1, if_pos c2, if_pos c3, if_neg c4, if_neg c6]), (by simp only [s_X5_glow, if_pos c1, if_pos c2, if_pos c3, if_neg c4, if_neg c6])⟩
          · refine V_aload_n f dX5_glow_108 1 rfl ?_
            refine V_iconst (v := 1) f dX5_glow_109 (by decide) ?_
            refine V_putI f dX5_glow_110 lf_5_24 lp_5_4 rfl rfl rfl rfl hi ?_
            refine V_aload_n f dX5_glow_113 1 rfl ?_
            refine V_iload_n f dX5_glow_114 3 rfl ?_
            refine V_putI f dX5_glow_115 lf_5_31 lp_5_6 rfl rfl rfl rfl hi ?_
            refine V_iconst (v := 0) f dX5_glow_118 (by decide) ?_
            exact V_iret f q dX5_glow_119 rfl (Nat.zero_le _) (Nat.zero_le _) ⟨rfl, rfl, (by simp only [s_X5_glow, if_pos c1, if_pos c2, if_pos c3, if_neg c4, if_pos c6]), (by simp only [s_X5_glow, if_pos c1, if_pos c2, if_pos c3, if_neg c4, if_pos c6])⟩
      · refine V_iconst (v := 2) f dX5_glow_65 (by decide) ?_
        refine V_goto (tgt := 70) f dX5_glow_66 (by decide) ?_
        refine V_iadd f dX5_glow_70 ?_
        refine V_iload_n f dX5_glow_71 1 rfl ?_
        refine V_bipush (v := 20) f dX5_glow_72 (by decide) ?_
        refine V_icmp_le (tgt := 81) f dX5_glow_74 (by decide) (fun c7 => ?_) (fun c7 => ?_)
        · refine V_iconst (v := 0) f dX5_glow_81 (by decide) ?_
          refine V_isub f dX5_glow_82 ?_
          refine V_istore_n f dX5_glow_83 rfl (by decide) rfl ?_
          refine V_aload_n f dX5_glow_84 1 rfl ?_
          refine V_bipush (v := 100) f dX5_glow_85 (by decide) ?_
          refine V_bipush (v := 10) f dX5_glow_87 (by decide) ?_
          refine V_iload_n f dX5_glow_89 0 rfl ?_
          refine V_mmax f dX5_glow_90 ml_X5_40 ma_max ma_ini mc_max (by decide) (Nat.le_of_ble_eq_true rfl) (Nat.zero_le _) (Nat.zero_le _) ?_
          refine V_mmin f dX5_glow_93 ml_X5_46 ma_min ma_ini mc_min (by decide) (Nat.le_of_ble_eq_true rfl) (Nat.zero_le _) (Nat.zero_le _) ?_
          refine V_putI f dX5_glow_96 lf_5_18 lp_5_2 rfl rfl rfl rfl hi ?_
          refine V_aload_n f dX5_glow_99 1 rfl ?_
          refine V_getE (x := if (if 10 < (((((M i 2) + 1) + ((M i 0) / 500)) + 2) - 0) then (((((M i 2) + 1) + ((M i 0) / 500)) + 2) - 0) else 10) < 100 then (if 10 < (((((M i 2) + 1) + ((M i 0) / 500)) + 2) - 0) then (((((M i 2) + 1) + ((M i 0) / 500)) + 2) - 0) else 10) else 100) f dX5_glow_100 lf_5_18 rfl hi up_s ?_
          refine V_bipush (v := 100) f dX5_glow_103 (by decide) ?_
          refine V_icmp_ne (tgt := 118) f dX5_glow_105 (by decide) (fun c8 => ?_) (fun c8 => ?_)
          · refine V_iconst (v := 0) f dX5_glow_118 (by decide) ?_
            exact V_iret f q dX5_glow_119 rfl (Nat.zero_le _) (Nat.zero_le _) ⟨rfl, rfl, (by simp only [s_X5_glow, if_pos c1, if_pos c2, if_neg c3, if_pos c7, if_neg c8]), (by simp only [s_X5_glow, if_pos c1, if_pos c2, if_neg c3, if_pos c7, if_neg c8])⟩
          · refine V_aload_n f dX5_glow_108 1 rfl ?_
            refine V_iconst (v := 1) f dX5_glow_109 (by decide) ?_
            refine V_putI f dX5_glow_110 lf_5_24 lp_5_4 rfl rfl rfl rfl hi ?_
            refine V_aload_n f dX5_glow_113 1 rfl ?_
            refine V_iload_n f dX5_glow_114 3 rfl ?_
            refine V_putI f dX5_glow_115 lf_5_31 lp_5_6 rfl rfl rfl rfl hi ?_
            refine V_iconst (v := 0) f dX5_glow_118 (by decide) ?_
            exact V_iret f q dX5_glow_119 rfl (Nat.zero_le _) (Nat.zero_le _) ⟨rfl, rfl, (by simp only [s_X5_glow, if_pos c1, if_pos c2, if_neg c3, if_pos c7, if_pos c8]), (by simp only [s_X5_glow, if_pos c1, if_pos c2, if_neg c3, if_pos c7, if_pos c8])⟩
        · refine V_iconst (v := 3) f dX5_glow_77 (by decide) ?_
          refine V_goto (tgt := 82) f dX5_glow_78 (by decide) ?_
          refine V_isub f dX5_glow_82 ?_
          refine V_istore_n f dX5_glow_83 rfl (by decide) rfl ?_
          refine V_aload_n f dX5_glow_84 1 rfl ?_
          refine V_bipush (v := 100) f dX5_glow_85 (by decide) ?_
          refine V_bipush (v := 10) f dX5_glow_87 (by decide) ?_
          refine V_iload_n f dX5_glow_89 0 rfl ?_
          refine V_mmax f dX5_glow_90 ml_X5_40 ma_max ma_ini mc_max (by decide) (Nat.le_of_ble_eq_true rfl) (Nat.zero_le _) (Nat.zero_le _) ?_
          refine V_mmin f dX5_glow_93 ml_X5_46 ma_min ma_ini mc_min (by decide) (Nat.le_of_ble_eq_true rfl) (Nat.zero_le _) (Nat.zero_le _) ?_
          refine V_putI f dX5_glow_96 lf_5_18 lp_5_2 rfl rfl rfl rfl hi ?_
          refine V_aload_n f dX5_glow_99 1 rfl ?_
          refine V_getE (x := if (if 10 < (((((M i 2) + 1) + ((M i 0) / 500)) + 2) - 3) then (((((M i 2) + 1) + ((M i 0) / 500)) + 2) - 3) else 10) < 100 then (if 10 < (((((M i 2) + 1) + ((M i 0) / 500)) + 2) - 3) then (((((M i 2) + 1) + ((M i 0) / 500)) + 2) - 3) else 10) else 100) f dX5_glow_100 lf_5_18 rfl hi up_s ?_
          refine V_bipush (v := 100) f dX5_glow_103 (by decide) ?_
          refine V_icmp_ne (tgt := 118) f dX5_glow_105 (by decide) (fun c9 => ?_) (fun c9 => ?_)
          · refine V_iconst (v := 0) f dX5_glow_118 (by decide) ?_
            exact V_iret f q dX5_glow_119 rfl (Nat.zero_le _) (Nat.zero_le _) ⟨rfl, rfl, (by simp only [s_X5_glow, if_pos c1, if_pos c2, if_neg c3, if_neg c7, if_neg c9]), (by simp only [s_X5_glow, if_pos c1, if_pos c2, if_neg c3, if_neg c7, if_neg c9])⟩
          · refine V_aload_n f dX5_glow_108 1 rfl ?_
            refine V_iconst (v := 1) f dX5_glow_109 (by decide) ?_
            refine V_putI f dX5_glow_110 lf_5_24 lp_5_4 rfl rfl rfl rfl hi ?_
            refine V_aload_n f dX5_glow_113 1 rfl ?_
            refine V_iload_n f dX5_glow_114 3 rfl ?_
            refine V_putI f dX5_glow_115 lf_5_31 lp_5_6 rfl rfl rfl rfl hi ?_
            refine V_iconst (v := 0) f dX5_glow_118 (by decide) ?_
            exact V_iret f q dX5_glow_119 rfl (Nat.zero_le _) (Nat.zero_le _) ⟨rfl, rfl, (by simp only [s_X5_glow, if_pos c1, if_pos c2, if_neg c3, if_neg c7, if_pos c9]), (by simp only [s_X5_glow, if_pos c1, if_pos c2, if_neg c3, if_neg c7, if_pos c9])⟩
    · refine V_iconst (v := 1) f dX5_glow_16 (by decide) ?_
      refine V_aload_n f dX5_glow_17 0 rfl ?_
      refine V_getE (x := M i 0) f dX5_glow_18 lf_5_9 rfl hi rfl ?_
      refine V_bipush (v := 10) f dX5_glow_21 (by decide) ?_
      refine V_idiv f dX5_glow_23 (by decide) ?_
      refine V_mmax f dX5_glow_24 ml_X5_40 ma_max ma_ini mc_max (by decide) (Nat.le_of_ble_eq_true rfl) (Nat.zero_le _) (Nat.zero_le _) ?_
      refine V_istore_n f dX5_glow_27 rfl (by decide) rfl ?_
      refine V_aload_n f dX5_glow_28 1 rfl ?_
      refine V_dup f dX5_glow_29 rfl ?_
      refine V_getE (x := M i 0) f dX5_glow_30 lf_5_9 rfl hi rfl ?_
      refine V_iload_n f dX5_glow_33 0 rfl ?_
      refine V_isub f dX5_glow_34 ?_
      refine V_putI f dX5_glow_35 lf_5_9 lp_5_0 rfl rfl rfl rfl hi ?_
      refine V_iload_n f dX5_glow_38 0 rfl ?_
      exact V_iret f q dX5_glow_39 rfl (Nat.zero_le _) (Nat.zero_le _) ⟨rfl, rfl, (by simp only [s_X5_glow, if_pos c1, if_neg c2]), (by simp only [s_X5_glow, if_pos c1, if_neg c2])⟩
  · refine V_iconst (v := 0) f dX5_glow_7 (by decide) ?_
    exact V_iret f q dX5_glow_8 rfl (Nat.zero_le _) (Nat.zero_le _) ⟨rfl, rfl, (by simp only [s_X5_glow, if_neg c1]), (by simp only [s_X5_glow, if_neg c1])⟩
def s_X5_turnOver (M : MT) (i : Nat) : MT := (up2 (up2 M i 2 (if 10 < ((M i 2) / 2) then ((M i 2) / 2) else 10)) i 7 ((M i 7) + 1))
set_option maxHeartbeats 4000000 in
set_option maxRecDepth 100000 in
theorem c_X5_turnOver (l : Launch) (D : va_G) (cy : Nat → ClassId) (X : va_W) (ad : Nat → Nat) {Z : ZT} (M : MT) (i : Nat) {ni : Nat} {rsi : List (Option Nat)} (hi : Z[i]? = some (5, ni, rsi)) : CtV l yX5_turnOver cX5_turnOver 1 (rK 1) D cy X ad Z M [.ref (ad i)] (s_X5_turnOver M i) := by
  refine Ctr.of (by decide +kernel) (Nat.le_of_ble_eq_true rfl) ?_
  intro K f q hnm hl0 hD0 hy0 hX0
  show V K ad 0 0 Z M 0 [(0, .ref (ad i))] []
  refine V_aload_n f dX5_turnOver_0 0 rfl ?_
  refine V_bipush (v := 10) f dX5_turnOver_1 (by decide) ?_
  refine V_aload_n f dX5_turnOver_3 0 rfl ?_
  refine V_getE (x := M i 2) f dX5_turnOver_4 lf_5_18 rfl hi rfl ?_
  refine V_iconst (v := 2) f dX5_turnOver_7 (by decide) ?_
  refine V_idiv f dX5_turnOver_8 (by decide) ?_
  refine V_mmax f dX5_turnOver_9 ml_X5_40 ma_max ma_ini mc_max (by decide) (Nat.le_of_ble_eq_true rfl) (Nat.zero_le _) (Nat.zero_le _) ?_
  refine V_putI f dX5_turnOver_12 lf_5_18 lp_5_2 rfl rfl rfl rfl hi ?_
  refine V_aload_n f dX5_turnOver_15 0 rfl ?_
  refine V_dup f dX5_turnOver_16 rfl ?_
  refine V_getE (x := M i 7) f dX5_turnOver_17 lf_5_34 rfl hi (up_k (by decide) rfl) ?_
  refine V_iconst (v := 1) f dX5_turnOver_20 (by decide) ?_
  refine V_iadd f dX5_turnOver_21 ?_
  refine V_putI f dX5_turnOver_22 lf_5_34 lp_5_7 rfl rfl rfl rfl hi ?_
  exact V_vret f q dX5_turnOver_25 (Nat.zero_le _) (Nat.zero_le _) ⟨rfl, rfl, rfl, (by simp only [s_X5_turnOver])⟩
def s_X5_sendAway (M : MT) (i : Nat) : Int32 × MT := (M i 0, (up2 (up2 M i 0 0) i 8 1))
set_option maxHeartbeats 4000000 in
set_option maxRecDepth 100000 in
theorem c_X5_sendAway (l : Launch) (D : va_G) (cy : Nat → ClassId) (X : va_W) (ad : Nat → Nat) {Z : ZT} (M : MT) (i : Nat) {ni : Nat} {rsi : List (Option Nat)} (hi : Z[i]? = some (5, ni, rsi)) : CtI l yX5_sendAway cX5_sendAway 2 .int (rK 0) D cy X ad Z M [.ref (ad i)] (s_X5_sendAway M i).1 (s_X5_sendAway M i).2 := by
  refine Ctr.of (by decide +kernel) (Nat.le_of_ble_eq_true rfl) ?_
  intro K f q hnm hl0 hD0 hy0 hX0
  show V K ad 0 0 Z M 0 [(0, .ref (ad i))] []
  refine V_aload_n f dX5_sendAway_0 0 rfl ?_
  refine V_getE (x := M i 0) f dX5_sendAway_1 lf_5_9 rfl hi rfl ?_
  refine V_istore_n f dX5_sendAway_4 rfl (by decide) rfl ?_
  refine V_aload_n f dX5_sendAway_5 1 rfl ?_
  refine V_iconst (v := 0) f dX5_sendAway_6 (by decide) ?_
  refine V_putI f dX5_sendAway_7 lf_5_9 lp_5_0 rfl rfl rfl rfl hi ?_
  refine V_aload_n f dX5_sendAway_10 1 rfl ?_
  refine V_iconst (v := 1) f dX5_sendAway_11 (by decide) ?_
  refine V_putI f dX5_sendAway_12 lf_5_37 lp_5_8 rfl rfl rfl rfl hi ?_
  refine V_iload_n f dX5_sendAway_15 0 rfl ?_
  exact V_iret f q dX5_sendAway_16 rfl (Nat.zero_le _) (Nat.zero_le _) ⟨rfl, rfl, (by simp only [s_X5_sendAway]), (by simp only [s_X5_sendAway])⟩
def s_X5_tellOf (M : MT) (i : Nat) (a : Int32) : Int32 := (if a = 0 then (M i 0) else (if a = 1 then (M i 1) else (if a = 2 then (M i 2) else (if a = 3 then (M i 3) else (if a = 4 then (if (M i 4) = 0 then 0 else 1) else (if a = 5 then (M i 5) else (if a = 6 then (M i 6) else (if a = 7 then (M i 7) else (if a = 8 then (if (M i 8) = 0 then 0 else 1) else (-1))))))))))
set_option maxHeartbeats 4000000 in
set_option maxRecDepth 100000 in
theorem c_X5_tellOf (l : Launch) (D : va_G) (cy : Nat → ClassId) (X : va_W) (ad : Nat → Nat) {Z : ZT} (M : MT) (i : Nat) (a : Int32) {ni : Nat} {rsi : List (Option Nat)} (hi : Z[i]? = some (5, ni, rsi)) : CtI l yX5_tellOf cX5_tellOf 2 .int (rK 0) D cy X ad Z M [.ref (ad i), .int a] (s_X5_tellOf M i a) M := by
  refine Ctr.of (by decide +kernel) (Nat.le_of_ble_eq_true rfl) ?_
  intro K f q hnm hl0 hD0 hy0 hX0
  show V K ad 0 0 Z M 0 [(0, .ref (ad i)), (1, .int a)] []
  refine V_iload_n f dX5_tellOf_0 1 rfl ?_
  rcases Decidable.em (a = 0) with c1 | c1
  · refine V_tableIn (off := 51) (tgt := 52) f dX5_tellOf_1 (by rw [c1]; decide) (by rw [c1]; decide) (by rw [c1]; decide) (by decide) ?_
    refine V_aload_n f dX5_tellOf_52 0 rfl ?_
    refine V_getE (x := M i 0) f dX5_tellOf_53 lf_5_9 rfl hi rfl ?_
    exact V_iret f q dX5_tellOf_56 rfl (Nat.zero_le _) (Nat.zero_le _) ⟨rfl, rfl, (by simp only [s_X5_tellOf, if_pos c1]), rfl⟩
  rcases Decidable.em (a = 1) with c2 | c2
  · refine V_tableIn (off := 56) (tgt := 57) f dX5_tellOf_1 (by rw [c2]; decide) (by rw [c2]; decide) (by rw [c2]; decide) (by decide) ?_
    refine V_aload_n f dX5_tellOf_57 0 rfl ?_
    refine V_getE (x := M i 1) f dX5_tellOf_58 lf_5_15 rfl hi rfl ?_
    exact V_iret f q dX5_tellOf_61 rfl (Nat.zero_le _) (Nat.zero_le _) ⟨rfl, rfl, (by simp only [s_X5_tellOf, if_neg c1, if_pos c2]), rfl⟩
  rcases Decidable.em (a = 2) with c3 | c3
  · refine V_tableIn (off := 61) (tgt := 62) f dX5_tellOf_1 (by rw [c3]; decide) (by rw [c3]; decide) (by rw [c3]; decide) (by decide) ?_
    refine V_aload_n f dX5_tellOf_62 0 rfl ?_
    refine V_getE (x := M i 2) f dX5_tellOf_63 lf_5_18 rfl hi rfl ?_
    exact V_iret f q dX5_tellOf_66 rfl (Nat.zero_le _) (Nat.zero_le _) ⟨rfl, rfl, (by simp only [s_X5_tellOf, if_neg c1, if_neg c2, if_pos c3]), rfl⟩
  rcases Decidable.em (a = 3) with c4 | c4
  · refine V_tableIn (off := 66) (tgt := 67) f dX5_tellOf_1 (by rw [c4]; decide) (by rw [c4]; decide) (by rw [c4]; decide) (by decide) ?_
    refine V_aload_n f dX5_tellOf_67 0 rfl ?_
    refine V_getE (x := M i 3) f dX5_tellOf_68 lf_5_21 rfl hi rfl ?_
    exact V_iret f q dX5_tellOf_71 rfl (Nat.zero_le _) (Nat.zero_le _) ⟨rfl, rfl, (by simp only [s_X5_tellOf, if_neg c1, if_neg c2, if_neg c3, if_pos c4]), rfl⟩
  rcases Decidable.em (a = 4) with c5 | c5
  · refine V_tableIn (off := 71) (tgt := 72) f dX5_tellOf_1 (by rw [c5]; decide) (by rw [c5]; decide) (by rw [c5]; decide) (by decide) ?_
    refine V_aload_n f dX5_tellOf_72 0 rfl ?_
    refine V_getE (x := M i 4) f dX5_tellOf_73 lf_5_24 rfl hi rfl ?_
    refine V_if_eq (tgt := 83) f dX5_tellOf_76 (by decide) (fun c6 => ?_) (fun c6 => ?_)
    · refine V_iconst (v := 0) f dX5_tellOf_83 (by decide) ?_
      exact V_iret f q dX5_tellOf_84 rfl (Nat.zero_le _) (Nat.zero_le _) ⟨rfl, rfl, (by simp only [s_X5_tellOf, if_neg c1, if_neg c2, if_neg c3, if_neg c4, if_pos c5, if_pos c6]), rfl⟩
    · refine V_iconst (v := 1) f dX5_tellOf_79 (by decide) ?_
      refine V_goto (tgt := 84) f dX5_tellOf_80 (by decide) ?_
      exact V_iret f q dX5_tellOf_84 rfl (Nat.zero_le _) (Nat.zero_le _) ⟨rfl, rfl, (by simp only [s_X5_tellOf, if_neg c1, if_neg c2, if_neg c3, if_neg c4, if_pos c5, if_neg c6]), rfl⟩
  rcases Decidable.em (a = 5) with c7 | c7
  · refine V_tableIn (off := 84) (tgt := 85) f dX5_tellOf_1 (by rw [c7]; decide) (by rw [c7]; decide) (by rw [c7]; decide) (by decide) ?_
    refine V_aload_n f dX5_tellOf_85 0 rfl ?_
    refine V_getE (x := M i 5) f dX5_tellOf_86 lf_5_28 rfl hi rfl ?_
    exact V_iret f q dX5_tellOf_89 rfl (Nat.zero_le _) (Nat.zero_le _) ⟨rfl, rfl, (by simp only [s_X5_tellOf, if_neg c1, if_neg c2, if_neg c3, if_neg c4, if_neg c5, if_pos c7]), rfl⟩
  rcases Decidable.em (a = 6) with c8 | c8
  · refine V_tableIn (off := 89) (tgt := 90) f dX5_tellOf_1 (by rw [c8]; decide) (by rw [c8]; decide) (by rw [c8]; decide) (by decide) ?_
    refine V_aload_n f dX5_tellOf_90 0 rfl ?_
    refine V_getE (x := M i 6) f dX5_tellOf_91 lf_5_31 rfl hi rfl ?_
    exact V_iret f q dX5_tellOf_94 rfl (Nat.zero_le _) (Nat.zero_le _) ⟨rfl, rfl, (by simp only [s_X5_tellOf, if_neg c1, if_neg c2, if_neg c3, if_neg c4, if_neg c5, if_neg c7, if_pos c8]), rfl⟩
  rcases Decidable.em (a = 7) with c9 | c9
  · refine V_tableIn (off := 94) (tgt := 95) f dX5_tellOf_1 (by rw [c9]; decide) (by rw [c9]; decide) (by rw [c9]; decide) (by decide) ?_
    refine V_aload_n f dX5_tellOf_95 0 rfl ?_
    refine V_getE (x := M i 7) f dX5_tellOf_96 lf_5_34 rfl hi rfl ?_
    exact V_iret f q dX5_tellOf_99 rfl (Nat.zero_le _) (Nat.zero_le _) ⟨rfl, rfl, (by simp only [s_X5_tellOf, if_neg c1, if_neg c2, if_neg c3, if_neg c4, if_neg c5, if_neg c7, if_neg c8, if_pos c9]), rfl⟩
  rcases Decidable.em (a = 8) with c10 | c10
  · refine V_tableIn (off := 99) (tgt := 100) f dX5_tellOf_1 (by rw [c10]; decide) (by rw [c10]; decide) (by rw [c10]; decide) (by decide) ?_
    refine V_aload_n f dX5_tellOf_100 0 rfl ?_
    refine V_getE (x := M i 8) f dX5_tellOf_101 lf_5_37 rfl hi rfl ?_
    refine V_if_eq (tgt := 111) f dX5_tellOf_104 (by decide) (fun c11 => ?_) (fun c11 => ?_)
    · refine V_iconst (v := 0) f dX5_tellOf_111 (by decide) ?_
      exact V_iret f q dX5_tellOf_112 rfl (Nat.zero_le _) (Nat.zero_le _) ⟨rfl, rfl, (by simp only [s_X5_tellOf, if_neg c1, if_neg c2, if_neg c3, if_neg c4, if_neg c5, if_neg c7, if_neg c8, if_neg c9, if_pos c10, if_pos c11]), rfl⟩
    · refine V_iconst (v := 1) f dX5_tellOf_107 (by decide) ?_
      refine V_goto (tgt := 112) f dX5_tellOf_108 (by decide) ?_
      exact V_iret f q dX5_tellOf_112 rfl (Nat.zero_le _) (Nat.zero_le _) ⟨rfl, rfl, (by simp only [s_X5_tellOf, if_neg c1, if_neg c2, if_neg c3, if_neg c4, if_neg c5, if_neg c7, if_neg c8, if_neg c9, if_pos c10, if_neg c11]), rfl⟩
  refine V_tableOut (tgt := 113) f dX5_tellOf_1 (sw_out 0 8 9 [0, 1, 2, 3, 4, 5, 6, 7, 8] (by decide) (by decide) (List.forall_mem_cons.mpr ⟨c1, (List.forall_mem_cons.mpr ⟨c2, (List.forall_mem_cons.mpr ⟨c3, (List.forall_mem_cons.mpr ⟨c4, (List.forall_mem_cons.mpr ⟨c5, (List.forall_mem_cons.mpr ⟨c7, (List.forall_mem_cons.mpr ⟨c8, (List.forall_mem_cons.mpr ⟨c9, (List.forall_mem_cons.mpr ⟨c10, (fun _ h => absurd h List.not_mem_nil)⟩)⟩)⟩)⟩)⟩)⟩)⟩)⟩)⟩)) (by decide) ?_
  refine V_iconst (v := (-1)) f dX5_tellOf_113 (by decide) ?_
  exact V_iret f q dX5_tellOf_114 rfl (Nat.zero_le _) (Nat.zero_le _) ⟨rfl, rfl, (by simp only [s_X5_tellOf, if_neg c1, if_neg c2, if_neg c3, if_neg c4, if_neg c5, if_neg c7, if_neg c8, if_neg c9, if_neg c10]), rfl⟩
def s_X0_weather (M : MT) (i : Nat) (a : Int32) (b : Int32) (e : Int32) : MT := (if (s_X0_lies (up2 (up2 M i 4 0) i 5 (-1)) i) = 0 then (up2 (up2 M i 4 0) i 5 (-1)) else (if (M i 1) = 2 then (up2 (up2 (up2 M i 4 0) i 5 (-1)) i 3 (if ((if 0 < ((M i 3) - (((12 * a) + (6 * b)) / 2)) then ((M i 3) - (((12 * a) + (6 * b)) / 2)) else 0) + ((10 * e) / 4)) < 900 then ((if 0 < ((M i 3) - (((12 * a) + (6 * b)) / 2)) then ((M i 3) - (((12 * a) + (6 * b)) / 2)) else 0) + ((10 * e) / 4)) else 900)) else (up2 (up2 (up2 M i 4 0) i 5 (-1)) i 3 (if ((if 0 < ((M i 3) - ((12 * a) + (6 * b))) then ((M i 3) - ((12 * a) + (6 * b))) else 0) + (10 * e)) < 900 then ((if 0 < ((M i 3) - ((12 * a) + (6 * b))) then ((M i 3) - ((12 * a) + (6 * b))) else 0) + (10 * e)) else 900))))
set_option maxHeartbeats 4000000 in
set_option maxRecDepth 100000 in
theorem c_X0_weather (l : Launch) (D : va_G) (cy : Nat → ClassId) (X : va_W) (ad : Nat → Nat) {Z : ZT} (M : MT) (i : Nat) (a : Int32) (b : Int32) (e : Int32) {ni : Nat} {rsi : List (Option Nat)} (hi : Z[i]? = some (0, ni, rsi)) : CtV l yX0_weather cX0_weather 6 (rK 1) D cy X ad Z M [.ref (ad i), .int a, .int b, .int e] (s_X0_weather M i a b e) := by
  refine Ctr.of (by decide +kernel) (Nat.le_of_ble_eq_true rfl) ?_
  intro K f q hnm hl0 hD0 hy0 hX0
  show V K ad 0 0 Z M 0 [(0, .ref (ad i)), (1, .int a), (2, .int b), (3, .int e)] []
  refine V_aload_n f dX0_weather_0 0 rfl ?_
  refine V_iconst (v := 0) f dX0_weather_1 (by decide) ?_
  refine V_putI f dX0_weather_2 lf_0_24 lp_0_4 rfl rfl rfl rfl hi ?_
  refine V_aload_n f dX0_weather_5 0 rfl ?_
  refine V_iconst (v := (-1)) f dX0_weather_6 (by decide) ?_
  refine V_putI f dX0_weather_7 lf_0_27 lp_0_5 rfl rfl rfl rfl hi ?_
  refine V_aload_n f dX0_weather_10 0 rfl ?_
  refine V_cVi (As := []) (rest := []) f dX0_weather_11 lk_X0_33 ml_X0_33 ins_X0_lies sel_X0_lies hi (by decide) rfl (c_X0_lies (kl K) (kD K) (ky K) (kX K) ad (up2 (up2 M i 4 0) i 5 (-1)) i hi) rfl (Nat.le_of_ble_eq_true rfl) rfl ⟨by decide, by decide⟩ ⟨Nat.zero_le _, Nat.zero_le _⟩ rfl rfl ?_
  refine V_if_ne (tgt := 18) f dX0_weather_14 (by decide) (fun c1 => ?_) (fun c1 => ?_)
  · refine V_bipush (v := 12) f dX0_weather_18 (by decide) ?_
    refine V_iload_n f dX0_weather_20 1 rfl ?_
    refine V_imul f dX0_weather_21 ?_
    refine V_bipush (v := 6) f dX0_weather_22 (by decide) ?_
    refine V_iload_n f dX0_weather_24 2 rfl ?_
    refine V_imul f dX0_weather_25 ?_
    refine V_iadd f dX0_weather_26 ?_
    refine V_istore f dX0_weather_27 (by decide) rfl ?_
    refine V_bipush (v := 10) f dX0_weather_29 (by decide) ?_
    refine V_iload_n f dX0_weather_31 4 rfl ?_
    refine V_imul f dX0_weather_32 ?_
    refine V_istore f dX0_weather_33 (by decide) rfl ?_
    refine V_aload_n f dX0_weather_35 2 rfl ?_
    refine V_getE (x := M i 1) f dX0_weather_36 lf_0_15 rfl hi (up_k (by decide) (up_k (by decide) rfl)) ?_
    refine V_iconst (v := 2) f dX0_weather_39 (by decide) ?_
    refine V_icmp_ne (tgt := 55) f dX0_weather_40 (by decide) (fun c2 => ?_) (fun c2 => ?_)
    · refine V_aload_n f dX0_weather_55 2 rfl ?_
      refine V_sipush (v := 900) f dX0_weather_56 (by decide) ?_
      refine V_iconst (v := 0) f dX0_weather_59 (by decide) ?_
      refine V_aload_n f dX0_weather_60 2 rfl ?_
      refine V_getE (x := M i 3) f dX0_weather_61 lf_0_21 rfl hi (up_k (by decide) (up_k (by decide) rfl)) ?_
      refine V_iload f dX0_weather_64 1 rfl ?_
      refine V_isub f dX0_weather_66 ?_
      refine V_mmax f dX0_weather_67 ml_X0_37 ma_max ma_ini mc_max (by decide) (Nat.le_of_ble_eq_true rfl) (Nat.zero_le _) (Nat.zero_le _) ?_
      refine V_iload f dX0_weather_70 0 rfl ?_
      refine V_iadd f dX0_weather_72 ?_
      refine V_mmin f dX0_weather_73 ml_X0_43 ma_min ma_ini mc_min (by decide) (Nat.le_of_ble_eq_true rfl) (Nat.zero_le _) (Nat.zero_le _) ?_
      refine V_putI f dX0_weather_76 lf_0_21 lp_0_3 rfl rfl rfl rfl hi ?_
      exact V_vret f q dX0_weather_79 (Nat.zero_le _) (Nat.zero_le _) ⟨rfl, rfl, rfl, (by simp only [s_X0_weather, if_neg c1, if_neg c2])⟩
    · refine V_iload f dX0_weather_43 1 rfl ?_
      refine V_iconst (v := 2) f dX0_weather_45 (by decide) ?_
      refine V_idiv f dX0_weather_46 (by decide) ?_
      refine V_istore f dX0_weather_47 (by decide) rfl ?_
      refine V_iload f dX0_weather_49 1 rfl ?_
      refine V_iconst (v := 4) f dX0_weather_51 (by decide) ?_
      refine V_idiv f dX0_weather_52 (by decide) ?_
      refine V_istore f dX0_weather_53 (by decide) rfl ?_
      refine V_aload_n f dX0_weather_55 2 rfl ?_
      refine V_sipush (v := 900) f dX0_weather_56 (by decide) ?_
      refine V_iconst (v := 0) f dX0_weather_59 (by decide) ?_
      refine V_aload_n f dX0_weather_60 2 rfl ?_
      refine V_getE (x := M i 3) f dX0_weather_61 lf_0_21 rfl hi (up_k (by decide) (up_k (by decide) rfl)) ?_
      refine V_iload f dX0_weather_64 1 rfl ?_
      refine V_isub f dX0_weather_66 ?_
      refine V_mmax f dX0_weather_67 ml_X0_37 ma_max ma_ini mc_max (by decide) (Nat.le_of_ble_eq_true rfl) (Nat.zero_le _) (Nat.zero_le _) ?_
      refine V_iload f dX0_weather_70 0 rfl ?_
      refine V_iadd f dX0_weather_72 ?_
      refine V_mmin f dX0_weather_73 ml_X0_43 ma_min ma_ini mc_min (by decide) (Nat.le_of_ble_eq_true rfl) (Nat.zero_le _) (Nat.zero_le _) ?_
      refine V_putI f dX0_weather_76 lf_0_21 lp_0_3 rfl rfl rfl rfl hi ?_
      exact V_vret f q dX0_weather_79 (Nat.zero_le _) (Nat.zero_le _) ⟨rfl, rfl, rfl, (by simp only [s_X0_weather, if_neg c1, if_pos c2])⟩
  · exact V_vret f q dX0_weather_17 (Nat.zero_le _) (Nat.zero_le _) ⟨rfl, rfl, rfl, (by simp only [s_X0_weather, if_pos c1])⟩
def s_X1_begin (M : MT) (i : Nat) (a : Int32) (b : Int32) : MT := (up2 (up2 (up2 (up2 (up2 (up2 M i 0 a) i 1 b) i 2 550) i 3 0) i 4 0) i 9 0)
set_option maxHeartbeats 4000000 in
set_option maxRecDepth 100000 in
theorem c_X1_begin (l : Launch) (D : va_G) (cy : Nat → ClassId) (X : va_W) (ad : Nat → Nat) (M : MT) (i : Nat) (a : Int32) (b : Int32) (hz : LawZ i) : CtV l yX1_begin cX1_begin 3 (rK 0) D cy X ad ZB M [.ref (ad i), .int a, .int b] (s_X1_begin M i a b) := by
  refine Ctr.of (by decide +kernel) (Nat.le_of_ble_eq_true rfl) ?_
  intro K f q hnm hl0 hD0 hy0 hX0
  show V K ad 0 0 ZB M 0 [(0, .ref (ad i)), (1, .int a), (2, .int b)] []
  refine V_aload_n f dX1_begin_0 0 rfl ?_
  refine V_iload_n f dX1_begin_1 1 rfl ?_
  refine V_putI f dX1_begin_2 lf_1_9 lp_1_0 rfl rfl rfl rfl (zL hz) ?_
  refine V_aload_n f dX1_begin_5 0 rfl ?_
  refine V_iload_n f dX1_begin_6 2 rfl ?_
  refine V_putI f dX1_begin_7 lf_1_15 lp_1_1 rfl rfl rfl rfl (zL hz) ?_
  refine V_aload_n f dX1_begin_10 0 rfl ?_
  refine V_sipush (v := 550) f dX1_begin_11 (by decide) ?_
  refine V_putI f dX1_begin_14 lf_1_18 lp_1_2 rfl rfl rfl rfl (zL hz) ?_
  refine V_aload_n f dX1_begin_17 0 rfl ?_
  refine V_iconst (v := 0) f dX1_begin_18 (by decide) ?_
  refine V_putI f dX1_begin_19 lf_1_21 lp_1_3 rfl rfl rfl rfl (zL hz) ?_
  refine V_aload_n f dX1_begin_22 0 rfl ?_
  refine V_iconst (v := 0) f dX1_begin_23 (by decide) ?_
  refine V_putI f dX1_begin_24 lf_1_24 lp_1_4 rfl rfl rfl rfl (zL hz) ?_
  refine V_aload_n f dX1_begin_27 0 rfl ?_
  refine V_iconst (v := 0) f dX1_begin_28 (by decide) ?_
  refine V_putI f dX1_begin_29 lf_1_40 lp_1_9 rfl rfl rfl rfl (zL hz) ?_
  exact V_vret f q dX1_begin_32 (Nat.zero_le _) (Nat.zero_le _) ⟨rfl, rfl, rfl, (by simp only [s_X1_begin])⟩
def s_X8_within (M : MT) (a : Int32) (b : Int32) (e : Int32) : Int32 := (if a < b then 0 else (if e < a then 0 else 1))
theorem b_X8_within (M : MT) (a : Int32) (b : Int32) (e : Int32) : s_X8_within M a b e = 0 ∨ s_X8_within M a b e = 1 := by unfold s_X8_within; first | (repeat' split) <;> simp | (repeat' split) <;> first | exact Or.inl rfl | exact Or.inr rfl | simp [*]
set_option maxHeartbeats 4000000 in
set_option maxRecDepth 100000 in
theorem c_X8_within (l : Launch) (D : va_G) (cy : Nat → ClassId) (X : va_W) (ad : Nat → Nat) {Z : ZT} (M : MT) (a : Int32) (b : Int32) (e : Int32) : CtI l yX8_within cX8_within 3 .boolean (rK 0) D cy X ad Z M [.int a, .int b, .int e] (s_X8_within M a b e) M := by
  refine Ctr.of (by decide +kernel) (Nat.le_of_ble_eq_true rfl) ?_
  intro K f q hnm hl0 hD0 hy0 hX0
  show V K ad 0 0 Z M 0 [(0, .int a), (1, .int b), (2, .int e)] []
  refine V_iload_n f dX8_within_0 0 rfl ?_
  refine V_iload_n f dX8_within_1 1 rfl ?_
  refine V_icmp_lt (tgt := 14) f dX8_within_2 (by decide) (fun c1 => ?_) (fun c1 => ?_)
  · refine V_iconst (v := 0) f dX8_within_14 (by decide) ?_
    exact V_iret f q dX8_within_15 rfl (Nat.zero_le _) (Nat.zero_le _) ⟨rfl, rfl, (by simp only [s_X8_within, if_pos c1]), rfl⟩
  · refine V_iload_n f dX8_within_5 0 rfl ?_
    refine V_iload_n f dX8_within_6 2 rfl ?_
    refine V_icmp_gt (tgt := 14) f dX8_within_7 (by decide) (fun c2 => ?_) (fun c2 => ?_)
    · refine V_iconst (v := 0) f dX8_within_14 (by decide) ?_
      exact V_iret f q dX8_within_15 rfl (Nat.zero_le _) (Nat.zero_le _) ⟨rfl, rfl, (by simp only [s_X8_within, if_neg c1, if_pos c2]), rfl⟩
    · refine V_iconst (v := 1) f dX8_within_10 (by decide) ?_
      refine V_goto (tgt := 15) f dX8_within_11 (by decide) ?_
      exact V_iret f q dX8_within_15 rfl (Nat.zero_le _) (Nat.zero_le _) ⟨rfl, rfl, (by simp only [s_X8_within, if_neg c1, if_neg c2]), rfl⟩
def s_X8_isBay (M : MT) (a : Int32) : Int32 := (s_X8_within M a 0 15)
theorem b_X8_isBay (M : MT) (a : Int32) : s_X8_isBay M a = 0 ∨ s_X8_isBay M a = 1 := by unfold s_X8_isBay; exact b_X8_within M a 0 15
set_option maxHeartbeats 4000000 in
set_option maxRecDepth 100000 in
theorem c_X8_isBay (l : Launch) (D : va_G) (cy : Nat → ClassId) (X : va_W) (ad : Nat → Nat) {Z : ZT} (M : MT) (a : Int32) : CtI l yX8_isBay cX8_isBay 1 .boolean (rK 1) D cy X ad Z M [.int a] (s_X8_isBay M a) M := by
  refine Ctr.of (by decide +kernel) (Nat.le_of_ble_eq_true rfl) ?_
  intro K f q hnm hl0 hD0 hy0 hX0
  show V K ad 0 0 Z M 0 [(0, .int a)] []
  refine V_iload_n f dX8_isBay_0 0 rfl ?_
  refine V_iconst (v := 0) f dX8_isBay_1 (by decide) ?_
  refine V_bipush (v := 15) f dX8_isBay_2 (by decide) ?_
  refine V_cSi (As := [.int a, .int 0, .int 15]) (rest := []) f dX8_isBay_4 lk_X8_90 ml_X8_90 sta_X8_within (c_X8_within (kl K) (kD K) (ky K) (kX K) ad M a 0 15) rfl (Nat.le_of_ble_eq_true rfl) rfl ⟨by decide, by decide⟩ ⟨Nat.zero_le _, Nat.zero_le _⟩ rfl rfl ?_
  exact V_iret f q dX8_isBay_7 (nbz (b_X8_within M a 0 15)) (Nat.zero_le _) (Nat.zero_le _) ⟨rfl, rfl, (by simp only [s_X8_isBay]), rfl⟩
theorem within_of {M : MT} {a b e : Int32} (h : ¬ s_X8_within M a b e = 0) : b ≤ a ∧ a ≤ e := by
  unfold s_X8_within at h
  by_cases h1 : a < b
  · simp [h1] at h
  · by_cases h2 : e < a
    · simp [h1, h2] at h
    · exact ⟨Int32.not_lt.mp h1, Int32.not_lt.mp h2⟩
theorem vin_rng {x e : Int32} {n : Nat} (h : 0 ≤ x ∧ x ≤ e) (hn : e.toInt < n) : vp_in x n := by
  rw [vp_in_iff]
  have a1 := Int32.le_iff_toInt_le.mp h.1
  have a2 := Int32.le_iff_toInt_le.mp h.2
  have e0 : (0 : Int32).toInt = 0 := by decide
  omega
theorem isBay_in {M : MT} {a : Int32} (h : ¬ s_X8_isBay M a = 0) : vp_in a 16 := vin_rng (within_of (M := M) h) (by decide)
end
