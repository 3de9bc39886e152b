section
-- ===== PART A: goes FIRST, ahead of the names: the tables' words, and 'selects' of the private methods out of them =====
/-- a private method of a class that the tables say can be made, by its rows of tables_1 -/
def lw_okq (q : MethodName × Nat) : Prop := (q.1.cls ≠ "java/lang/invoke/MethodHandle" ∧ q.1.cls ≠ "java/lang/invoke/VarHandle") ∧ Cond.instantiable q.1.cls q.2 ∈ tables_1 ∧ Cond.privateMethod q.1 ∈ tables_1 ∧ Cond.instanceMethod q.1 ∈ tables_1
theorem lw_p0 : lw_okq (⟨"SqueezedCode$Text", "widthAt", "(I)I"⟩, 4) := ⟨⟨by decide +kernel, by decide +kernel⟩, List.mem_of_getElem? (i := 26) (by decide +kernel), List.mem_of_getElem? (i := 375) (by decide +kernel), List.mem_of_getElem? (i := 376) (by decide +kernel)⟩
theorem lw_p1 : lw_okq (⟨"SqueezedCode$Text", "findLostTarget", "()I"⟩, 4) := ⟨⟨by decide +kernel, by decide +kernel⟩, List.mem_of_getElem? (i := 26) (by decide +kernel), List.mem_of_getElem? (i := 445) (by decide +kernel), List.mem_of_getElem? (i := 446) (by decide +kernel)⟩
theorem lw_p2 : lw_okq (⟨"SqueezedCode$Layout", "measureReaches", "()V"⟩, 16) := ⟨⟨by decide +kernel, by decide +kernel⟩, List.mem_of_getElem? (i := 157) (by decide +kernel), List.mem_of_getElem? (i := 476) (by decide +kernel), List.mem_of_getElem? (i := 477) (by decide +kernel)⟩
theorem lw_p3 : lw_okq (⟨"SqueezedCode$Layout", "leadsOn", "(I)Z"⟩, 16) := ⟨⟨by decide +kernel, by decide +kernel⟩, List.mem_of_getElem? (i := 157) (by decide +kernel), List.mem_of_getElem? (i := 481) (by decide +kernel), List.mem_of_getElem? (i := 482) (by decide +kernel)⟩
theorem lw_p4 : lw_okq (⟨"SqueezedCode$Layout", "findBest", "()V"⟩, 16) := ⟨⟨by decide +kernel, by decide +kernel⟩, List.mem_of_getElem? (i := 157) (by decide +kernel), List.mem_of_getElem? (i := 491) (by decide +kernel), List.mem_of_getElem? (i := 492) (by decide +kernel)⟩
theorem lw_p5 : lw_okq (⟨"SqueezedCode$Layout", "offer", "(II)V"⟩, 16) := ⟨⟨by decide +kernel, by decide +kernel⟩, List.mem_of_getElem? (i := 157) (by decide +kernel), List.mem_of_getElem? (i := 500) (by decide +kernel), List.mem_of_getElem? (i := 501) (by decide +kernel)⟩
theorem lw_p6 : lw_okq (⟨"SqueezedCode$Layout", "matches", "(LSqueezedCode$Entry;I)Z"⟩, 16) := ⟨⟨by decide +kernel, by decide +kernel⟩, List.mem_of_getElem? (i := 157) (by decide +kernel), List.mem_of_getElem? (i := 504) (by decide +kernel), List.mem_of_getElem? (i := 505) (by decide +kernel)⟩
theorem lw_p7 : lw_okq (⟨"SqueezedCode$Layout", "placeAll", "()V"⟩, 16) := ⟨⟨by decide +kernel, by decide +kernel⟩, List.mem_of_getElem? (i := 157) (by decide +kernel), List.mem_of_getElem? (i := 515) (by decide +kernel), List.mem_of_getElem? (i := 516) (by decide +kernel)⟩
theorem lw_p8 : lw_okq (⟨"SqueezedCode$Layout", "layNibbles", "()V"⟩, 16) := ⟨⟨by decide +kernel, by decide +kernel⟩, List.mem_of_getElem? (i := 157) (by decide +kernel), List.mem_of_getElem? (i := 519) (by decide +kernel), List.mem_of_getElem? (i := 520) (by decide +kernel)⟩
theorem lw_p9 : lw_okq (⟨"SqueezedCode$Layout", "layReference", "(I)V"⟩, 16) := ⟨⟨by decide +kernel, by decide +kernel⟩, List.mem_of_getElem? (i := 157) (by decide +kernel), List.mem_of_getElem? (i := 523) (by decide +kernel), List.mem_of_getElem? (i := 524) (by decide +kernel)⟩
theorem lw_p10 : lw_okq (⟨"SqueezedCode$Layout", "layAlone", "(I)V"⟩, 16) := ⟨⟨by decide +kernel, by decide +kernel⟩, List.mem_of_getElem? (i := 157) (by decide +kernel), List.mem_of_getElem? (i := 527) (by decide +kernel), List.mem_of_getElem? (i := 528) (by decide +kernel)⟩
theorem lw_p11 : lw_okq (⟨"SqueezedCode", "settle", "()V"⟩, 7) := ⟨⟨by decide +kernel, by decide +kernel⟩, List.mem_of_getElem? (i := 18) (by decide +kernel), List.mem_of_getElem? (i := 571) (by decide +kernel), List.mem_of_getElem? (i := 572) (by decide +kernel)⟩
theorem lw_p12 : lw_okq (⟨"SqueezedCode", "hindranceTo", "(III)I"⟩, 7) := ⟨⟨by decide +kernel, by decide +kernel⟩, List.mem_of_getElem? (i := 18) (by decide +kernel), List.mem_of_getElem? (i := 592) (by decide +kernel), List.mem_of_getElem? (i := 593) (by decide +kernel)⟩
theorem lw_p13 : lw_okq (⟨"SqueezedCode$Layout", "fewestWithCandidate", "()I"⟩, 16) := ⟨⟨by decide +kernel, by decide +kernel⟩, List.mem_of_getElem? (i := 157) (by decide +kernel), List.mem_of_getElem? (i := 646) (by decide +kernel), List.mem_of_getElem? (i := 647) (by decide +kernel)⟩
theorem lw_p14 : lw_okq (⟨"SqueezedCode$Choice", "tryAll", "(II)V"⟩, 6) := ⟨⟨by decide +kernel, by decide +kernel⟩, List.mem_of_getElem? (i := 225) (by decide +kernel), List.mem_of_getElem? (i := 662) (by decide +kernel), List.mem_of_getElem? (i := 663) (by decide +kernel)⟩
theorem lw_p15 : lw_okq (⟨"SqueezedCode$Run", "takeStep", "()V"⟩, 17) := ⟨⟨by decide +kernel, by decide +kernel⟩, List.mem_of_getElem? (i := 253) (by decide +kernel), List.mem_of_getElem? (i := 779) (by decide +kernel), List.mem_of_getElem? (i := 780) (by decide +kernel)⟩
def lw_privs_1 : List (MethodName × Nat) := [(⟨"SqueezedCode$Text", "widthAt", "(I)I"⟩, 4), (⟨"SqueezedCode$Text", "findLostTarget", "()I"⟩, 4), (⟨"SqueezedCode$Layout", "measureReaches", "()V"⟩, 16), (⟨"SqueezedCode$Layout", "leadsOn", "(I)Z"⟩, 16), (⟨"SqueezedCode$Layout", "findBest", "()V"⟩, 16), (⟨"SqueezedCode$Layout", "offer", "(II)V"⟩, 16), (⟨"SqueezedCode$Layout", "matches", "(LSqueezedCode$Entry;I)Z"⟩, 16), (⟨"SqueezedCode$Layout", "placeAll", "()V"⟩, 16), (⟨"SqueezedCode$Layout", "layNibbles", "()V"⟩, 16), (⟨"SqueezedCode$Layout", "layReference", "(I)V"⟩, 16), (⟨"SqueezedCode$Layout", "layAlone", "(I)V"⟩, 16), (⟨"SqueezedCode", "settle", "()V"⟩, 7), (⟨"SqueezedCode", "hindranceTo", "(III)I"⟩, 7), (⟨"SqueezedCode$Layout", "fewestWithCandidate", "()I"⟩, 16), (⟨"SqueezedCode$Choice", "tryAll", "(II)V"⟩, 6), (⟨"SqueezedCode$Run", "takeStep", "()V"⟩, 17)]
theorem lw_r1 : ∀ q ∈ lw_privs_1, lw_okq q := List.forall_mem_cons.mpr ⟨lw_p0, List.forall_mem_cons.mpr ⟨lw_p1, List.forall_mem_cons.mpr ⟨lw_p2, List.forall_mem_cons.mpr ⟨lw_p3, List.forall_mem_cons.mpr ⟨lw_p4, List.forall_mem_cons.mpr ⟨lw_p5, List.forall_mem_cons.mpr ⟨lw_p6, List.forall_mem_cons.mpr ⟨lw_p7, List.forall_mem_cons.mpr ⟨lw_p8, List.forall_mem_cons.mpr ⟨lw_p9, List.forall_mem_cons.mpr ⟨lw_p10, List.forall_mem_cons.mpr ⟨lw_p11, List.forall_mem_cons.mpr ⟨lw_p12, List.forall_mem_cons.mpr ⟨lw_p13, List.forall_mem_cons.mpr ⟨lw_p14, List.forall_mem_cons.mpr ⟨lw_p15, fun _ h => absurd h List.not_mem_nil⟩⟩⟩⟩⟩⟩⟩⟩⟩⟩⟩⟩⟩⟩⟩⟩
theorem lw_p16 : lw_okq (⟨"SqueezedCode$Run", "useLine", "(I)V"⟩, 17) := ⟨⟨by decide +kernel, by decide +kernel⟩, List.mem_of_getElem? (i := 253) (by decide +kernel), List.mem_of_getElem? (i := 784) (by decide +kernel), List.mem_of_getElem? (i := 785) (by decide +kernel)⟩
theorem lw_p17 : lw_okq (⟨"SqueezedCode$Run", "placeOf", "(I)I"⟩, 17) := ⟨⟨by decide +kernel, by decide +kernel⟩, List.mem_of_getElem? (i := 253) (by decide +kernel), List.mem_of_getElem? (i := 788) (by decide +kernel), List.mem_of_getElem? (i := 789) (by decide +kernel)⟩
theorem lw_p18 : lw_okq (⟨"SqueezedCode$Run", "work", "(II)V"⟩, 17) := ⟨⟨by decide +kernel, by decide +kernel⟩, List.mem_of_getElem? (i := 253) (by decide +kernel), List.mem_of_getElem? (i := 794) (by decide +kernel), List.mem_of_getElem? (i := 795) (by decide +kernel)⟩
theorem lw_p19 : lw_okq (⟨"SqueezedCode$Run", "tellOut", "(I)V"⟩, 17) := ⟨⟨by decide +kernel, by decide +kernel⟩, List.mem_of_getElem? (i := 253) (by decide +kernel), List.mem_of_getElem? (i := 799) (by decide +kernel), List.mem_of_getElem? (i := 800) (by decide +kernel)⟩
theorem lw_p20 : lw_okq (⟨"SqueezedCode$Run", "turn", "(II)V"⟩, 17) := ⟨⟨by decide +kernel, by decide +kernel⟩, List.mem_of_getElem? (i := 253) (by decide +kernel), List.mem_of_getElem? (i := 803) (by decide +kernel), List.mem_of_getElem? (i := 804) (by decide +kernel)⟩
theorem lw_p21 : lw_okq (⟨"SqueezedCode$Run", "addressOf", "(I)I"⟩, 17) := ⟨⟨by decide +kernel, by decide +kernel⟩, List.mem_of_getElem? (i := 253) (by decide +kernel), List.mem_of_getElem? (i := 807) (by decide +kernel), List.mem_of_getElem? (i := 808) (by decide +kernel)⟩
theorem lw_p22 : lw_okq (⟨"SqueezedCode$Run", "jumpBySum", "()V"⟩, 17) := ⟨⟨by decide +kernel, by decide +kernel⟩, List.mem_of_getElem? (i := 253) (by decide +kernel), List.mem_of_getElem? (i := 812) (by decide +kernel), List.mem_of_getElem? (i := 813) (by decide +kernel)⟩
theorem lw_p23 : lw_okq (⟨"SqueezedCodeModel", "told", "(IIIIII)V"⟩, 31) := ⟨⟨by decide +kernel, by decide +kernel⟩, List.mem_of_getElem? (i := 844) (by decide +kernel), List.mem_of_getElem? (i := 850) (by decide +kernel), List.mem_of_getElem? (i := 851) (by decide +kernel)⟩
theorem lw_p24 : lw_okq (⟨"SqueezedCodeModel", "oneIs", "(II)V"⟩, 31) := ⟨⟨by decide +kernel, by decide +kernel⟩, List.mem_of_getElem? (i := 844) (by decide +kernel), List.mem_of_getElem? (i := 854) (by decide +kernel), List.mem_of_getElem? (i := 855) (by decide +kernel)⟩
theorem lw_p25 : lw_okq (⟨"SqueezedCodeModel", "begin", "()V"⟩, 31) := ⟨⟨by decide +kernel, by decide +kernel⟩, List.mem_of_getElem? (i := 844) (by decide +kernel), List.mem_of_getElem? (i := 858) (by decide +kernel), List.mem_of_getElem? (i := 859) (by decide +kernel)⟩
theorem lw_p26 : lw_okq (⟨"SqueezedCodeModel", "cover", "()V"⟩, 31) := ⟨⟨by decide +kernel, by decide +kernel⟩, List.mem_of_getElem? (i := 844) (by decide +kernel), List.mem_of_getElem? (i := 865) (by decide +kernel), List.mem_of_getElem? (i := 866) (by decide +kernel)⟩
theorem lw_p27 : lw_okq (⟨"SqueezedCodeModel", "coverWith", "(Z)I"⟩, 31) := ⟨⟨by decide +kernel, by decide +kernel⟩, List.mem_of_getElem? (i := 844) (by decide +kernel), List.mem_of_getElem? (i := 869) (by decide +kernel), List.mem_of_getElem? (i := 870) (by decide +kernel)⟩
theorem lw_p28 : lw_okq (⟨"SqueezedCodeModel", "matches", "(II)Z"⟩, 31) := ⟨⟨by decide +kernel, by decide +kernel⟩, List.mem_of_getElem? (i := 844) (by decide +kernel), List.mem_of_getElem? (i := 879) (by decide +kernel), List.mem_of_getElem? (i := 880) (by decide +kernel)⟩
theorem lw_p29 : lw_okq (⟨"SqueezedCodeModel", "entryAt", "(I)I"⟩, 31) := ⟨⟨by decide +kernel, by decide +kernel⟩, List.mem_of_getElem? (i := 844) (by decide +kernel), List.mem_of_getElem? (i := 883) (by decide +kernel), List.mem_of_getElem? (i := 884) (by decide +kernel)⟩
theorem lw_p30 : lw_okq (⟨"SqueezedCodeModel", "isSequence", "(II)Z"⟩, 31) := ⟨⟨by decide +kernel, by decide +kernel⟩, List.mem_of_getElem? (i := 844) (by decide +kernel), List.mem_of_getElem? (i := 887) (by decide +kernel), List.mem_of_getElem? (i := 888) (by decide +kernel)⟩
theorem lw_p31 : lw_okq (⟨"SqueezedCodeModel", "refers", "(I)I"⟩, 31) := ⟨⟨by decide +kernel, by decide +kernel⟩, List.mem_of_getElem? (i := 844) (by decide +kernel), List.mem_of_getElem? (i := 891) (by decide +kernel), List.mem_of_getElem? (i := 892) (by decide +kernel)⟩
def lw_privs_2 : List (MethodName × Nat) := [(⟨"SqueezedCode$Run", "useLine", "(I)V"⟩, 17), (⟨"SqueezedCode$Run", "placeOf", "(I)I"⟩, 17), (⟨"SqueezedCode$Run", "work", "(II)V"⟩, 17), (⟨"SqueezedCode$Run", "tellOut", "(I)V"⟩, 17), (⟨"SqueezedCode$Run", "turn", "(II)V"⟩, 17), (⟨"SqueezedCode$Run", "addressOf", "(I)I"⟩, 17), (⟨"SqueezedCode$Run", "jumpBySum", "()V"⟩, 17), (⟨"SqueezedCodeModel", "told", "(IIIIII)V"⟩, 31), (⟨"SqueezedCodeModel", "oneIs", "(II)V"⟩, 31), (⟨"SqueezedCodeModel", "begin", "()V"⟩, 31), (⟨"SqueezedCodeModel", "cover", "()V"⟩, 31), (⟨"SqueezedCodeModel", "coverWith", "(Z)I"⟩, 31), (⟨"SqueezedCodeModel", "matches", "(II)Z"⟩, 31), (⟨"SqueezedCodeModel", "entryAt", "(I)I"⟩, 31), (⟨"SqueezedCodeModel", "isSequence", "(II)Z"⟩, 31), (⟨"SqueezedCodeModel", "refers", "(I)I"⟩, 31)]
theorem lw_r2 : ∀ q ∈ lw_privs_2, lw_okq q := List.forall_mem_cons.mpr ⟨lw_p16, List.forall_mem_cons.mpr ⟨lw_p17, List.forall_mem_cons.mpr ⟨lw_p18, List.forall_mem_cons.mpr ⟨lw_p19, List.forall_mem_cons.mpr ⟨lw_p20, List.forall_mem_cons.mpr ⟨lw_p21, List.forall_mem_cons.mpr ⟨lw_p22, List.forall_mem_cons.mpr ⟨lw_p23, List.forall_mem_cons.mpr ⟨lw_p24, List.forall_mem_cons.mpr ⟨lw_p25, List.forall_mem_cons.mpr ⟨lw_p26, List.forall_mem_cons.mpr ⟨lw_p27, List.forall_mem_cons.mpr ⟨lw_p28, List.forall_mem_cons.mpr ⟨lw_p29, List.forall_mem_cons.mpr ⟨lw_p30, List.forall_mem_cons.mpr ⟨lw_p31, fun _ h => absurd h List.not_mem_nil⟩⟩⟩⟩⟩⟩⟩⟩⟩⟩⟩⟩⟩⟩⟩⟩
theorem lw_p32 : lw_okq (⟨"SqueezedCodeModel", "readOne", "(I)I"⟩, 31) := ⟨⟨by decide +kernel, by decide +kernel⟩, List.mem_of_getElem? (i := 844) (by decide +kernel), List.mem_of_getElem? (i := 1006) (by decide +kernel), List.mem_of_getElem? (i := 1007) (by decide +kernel)⟩
theorem lw_p33 : lw_okq (⟨"SqueezedCodeModel", "figureAt", "(I)I"⟩, 31) := ⟨⟨by decide +kernel, by decide +kernel⟩, List.mem_of_getElem? (i := 844) (by decide +kernel), List.mem_of_getElem? (i := 1010) (by decide +kernel), List.mem_of_getElem? (i := 1011) (by decide +kernel)⟩
theorem lw_p34 : lw_okq (⟨"SqueezedCodeModel", "refusal", "(III)I"⟩, 31) := ⟨⟨by decide +kernel, by decide +kernel⟩, List.mem_of_getElem? (i := 844) (by decide +kernel), List.mem_of_getElem? (i := 1028) (by decide +kernel), List.mem_of_getElem? (i := 1029) (by decide +kernel)⟩
theorem lw_p35 : lw_okq (⟨"SqueezedCodeModel", "isCode", "(I)Z"⟩, 31) := ⟨⟨by decide +kernel, by decide +kernel⟩, List.mem_of_getElem? (i := 844) (by decide +kernel), List.mem_of_getElem? (i := 1032) (by decide +kernel), List.mem_of_getElem? (i := 1033) (by decide +kernel)⟩
theorem lw_p36 : lw_okq (⟨"SqueezedCodeModel", "hasLike", "(III)Z"⟩, 31) := ⟨⟨by decide +kernel, by decide +kernel⟩, List.mem_of_getElem? (i := 844) (by decide +kernel), List.mem_of_getElem? (i := 1039) (by decide +kernel), List.mem_of_getElem? (i := 1040) (by decide +kernel)⟩
theorem lw_p37 : lw_okq (⟨"SqueezedCodeModel", "lays", "(IIII)V"⟩, 31) := ⟨⟨by decide +kernel, by decide +kernel⟩, List.mem_of_getElem? (i := 844) (by decide +kernel), List.mem_of_getElem? (i := 1043) (by decide +kernel), List.mem_of_getElem? (i := 1044) (by decide +kernel)⟩
theorem lw_p38 : lw_okq (⟨"SqueezedCodeModel", "note", "()V"⟩, 31) := ⟨⟨by decide +kernel, by decide +kernel⟩, List.mem_of_getElem? (i := 844) (by decide +kernel), List.mem_of_getElem? (i := 1047) (by decide +kernel), List.mem_of_getElem? (i := 1048) (by decide +kernel)⟩
theorem lw_p39 : lw_okq (⟨"SqueezedCodeModel", "isEntry", "(I)Z"⟩, 31) := ⟨⟨by decide +kernel, by decide +kernel⟩, List.mem_of_getElem? (i := 844) (by decide +kernel), List.mem_of_getElem? (i := 1055) (by decide +kernel), List.mem_of_getElem? (i := 1056) (by decide +kernel)⟩
theorem lw_p40 : lw_okq (⟨"SqueezedCodeModel", "gainOf", "(III)I"⟩, 31) := ⟨⟨by decide +kernel, by decide +kernel⟩, List.mem_of_getElem? (i := 844) (by decide +kernel), List.mem_of_getElem? (i := 1063) (by decide +kernel), List.mem_of_getElem? (i := 1064) (by decide +kernel)⟩
theorem lw_p41 : lw_okq (⟨"SqueezedCodeModel", "chooses", "()Z"⟩, 31) := ⟨⟨by decide +kernel, by decide +kernel⟩, List.mem_of_getElem? (i := 844) (by decide +kernel), List.mem_of_getElem? (i := 1073) (by decide +kernel), List.mem_of_getElem? (i := 1074) (by decide +kernel)⟩
theorem lw_p42 : lw_okq (⟨"SqueezedCodeModel", "headOf", "(I)I"⟩, 31) := ⟨⟨by decide +kernel, by decide +kernel⟩, List.mem_of_getElem? (i := 844) (by decide +kernel), List.mem_of_getElem? (i := 1102) (by decide +kernel), List.mem_of_getElem? (i := 1103) (by decide +kernel)⟩
theorem lw_p43 : lw_okq (⟨"SqueezedCodeModel", "tableSize", "()I"⟩, 31) := ⟨⟨by decide +kernel, by decide +kernel⟩, List.mem_of_getElem? (i := 844) (by decide +kernel), List.mem_of_getElem? (i := 1111) (by decide +kernel), List.mem_of_getElem? (i := 1112) (by decide +kernel)⟩
theorem lw_p44 : lw_okq (⟨"SqueezedCodeModel", "lines", "()I"⟩, 31) := ⟨⟨by decide +kernel, by decide +kernel⟩, List.mem_of_getElem? (i := 844) (by decide +kernel), List.mem_of_getElem? (i := 1115) (by decide +kernel), List.mem_of_getElem? (i := 1116) (by decide +kernel)⟩
theorem lw_p45 : lw_okq (⟨"SqueezedCodeModel", "references", "(II)I"⟩, 31) := ⟨⟨by decide +kernel, by decide +kernel⟩, List.mem_of_getElem? (i := 844) (by decide +kernel), List.mem_of_getElem? (i := 1119) (by decide +kernel), List.mem_of_getElem? (i := 1120) (by decide +kernel)⟩
theorem lw_p46 : lw_okq (⟨"SqueezedCodeModel", "nibbleOf", "(II)I"⟩, 31) := ⟨⟨by decide +kernel, by decide +kernel⟩, List.mem_of_getElem? (i := 844) (by decide +kernel), List.mem_of_getElem? (i := 1127) (by decide +kernel), List.mem_of_getElem? (i := 1128) (by decide +kernel)⟩
theorem lw_p47 : lw_okq (⟨"SqueezedCodeModel", "lineEnd", "(I)I"⟩, 31) := ⟨⟨by decide +kernel, by decide +kernel⟩, List.mem_of_getElem? (i := 844) (by decide +kernel), List.mem_of_getElem? (i := 1146) (by decide +kernel), List.mem_of_getElem? (i := 1147) (by decide +kernel)⟩
def lw_privs_3 : List (MethodName × Nat) := [(⟨"SqueezedCodeModel", "readOne", "(I)I"⟩, 31), (⟨"SqueezedCodeModel", "figureAt", "(I)I"⟩, 31), (⟨"SqueezedCodeModel", "refusal", "(III)I"⟩, 31), (⟨"SqueezedCodeModel", "isCode", "(I)Z"⟩, 31), (⟨"SqueezedCodeModel", "hasLike", "(III)Z"⟩, 31), (⟨"SqueezedCodeModel", "lays", "(IIII)V"⟩, 31), (⟨"SqueezedCodeModel", "note", "()V"⟩, 31), (⟨"SqueezedCodeModel", "isEntry", "(I)Z"⟩, 31), (⟨"SqueezedCodeModel", "gainOf", "(III)I"⟩, 31), (⟨"SqueezedCodeModel", "chooses", "()Z"⟩, 31), (⟨"SqueezedCodeModel", "headOf", "(I)I"⟩, 31), (⟨"SqueezedCodeModel", "tableSize", "()I"⟩, 31), (⟨"SqueezedCodeModel", "lines", "()I"⟩, 31), (⟨"SqueezedCodeModel", "references", "(II)I"⟩, 31), (⟨"SqueezedCodeModel", "nibbleOf", "(II)I"⟩, 31), (⟨"SqueezedCodeModel", "lineEnd", "(I)I"⟩, 31)]
theorem lw_r3 : ∀ q ∈ lw_privs_3, lw_okq q := List.forall_mem_cons.mpr ⟨lw_p32, List.forall_mem_cons.mpr ⟨lw_p33, List.forall_mem_cons.mpr ⟨lw_p34, List.forall_mem_cons.mpr ⟨lw_p35, List.forall_mem_cons.mpr ⟨lw_p36, List.forall_mem_cons.mpr ⟨lw_p37, List.forall_mem_cons.mpr ⟨lw_p38, List.forall_mem_cons.mpr ⟨lw_p39, List.forall_mem_cons.mpr ⟨lw_p40, List.forall_mem_cons.mpr ⟨lw_p41, List.forall_mem_cons.mpr ⟨lw_p42, List.forall_mem_cons.mpr ⟨lw_p43, List.forall_mem_cons.mpr ⟨lw_p44, List.forall_mem_cons.mpr ⟨lw_p45, List.forall_mem_cons.mpr ⟨lw_p46, List.forall_mem_cons.mpr ⟨lw_p47, fun _ h => absurd h List.not_mem_nil⟩⟩⟩⟩⟩⟩⟩⟩⟩⟩⟩⟩⟩⟩⟩⟩
theorem lw_p48 : lw_okq (⟨"SqueezedCodeModel", "goesOn", "()Z"⟩, 31) := ⟨⟨by decide +kernel, by decide +kernel⟩, List.mem_of_getElem? (i := 844) (by decide +kernel), List.mem_of_getElem? (i := 1163) (by decide +kernel), List.mem_of_getElem? (i := 1164) (by decide +kernel)⟩
theorem lw_p49 : lw_okq (⟨"SqueezedCodeModel", "oneStep", "()V"⟩, 31) := ⟨⟨by decide +kernel, by decide +kernel⟩, List.mem_of_getElem? (i := 844) (by decide +kernel), List.mem_of_getElem? (i := 1167) (by decide +kernel), List.mem_of_getElem? (i := 1168) (by decide +kernel)⟩
theorem lw_p50 : lw_okq (⟨"SqueezedCodeModel", "holdLine", "(I)V"⟩, 31) := ⟨⟨by decide +kernel, by decide +kernel⟩, List.mem_of_getElem? (i := 844) (by decide +kernel), List.mem_of_getElem? (i := 1171) (by decide +kernel), List.mem_of_getElem? (i := 1172) (by decide +kernel)⟩
theorem lw_p51 : lw_okq (⟨"SqueezedCodeModel", "simple", "(II)V"⟩, 31) := ⟨⟨by decide +kernel, by decide +kernel⟩, List.mem_of_getElem? (i := 844) (by decide +kernel), List.mem_of_getElem? (i := 1176) (by decide +kernel), List.mem_of_getElem? (i := 1177) (by decide +kernel)⟩
theorem lw_p52 : lw_okq (⟨"SqueezedCodeModel", "placeOf", "(I)I"⟩, 31) := ⟨⟨by decide +kernel, by decide +kernel⟩, List.mem_of_getElem? (i := 844) (by decide +kernel), List.mem_of_getElem? (i := 1181) (by decide +kernel), List.mem_of_getElem? (i := 1182) (by decide +kernel)⟩
theorem lw_p53 : lw_okq (⟨"SqueezedCodeModel", "byAddress", "()I"⟩, 31) := ⟨⟨by decide +kernel, by decide +kernel⟩, List.mem_of_getElem? (i := 844) (by decide +kernel), List.mem_of_getElem? (i := 1185) (by decide +kernel), List.mem_of_getElem? (i := 1186) (by decide +kernel)⟩
def lw_privs_4 : List (MethodName × Nat) := [(⟨"SqueezedCodeModel", "goesOn", "()Z"⟩, 31), (⟨"SqueezedCodeModel", "oneStep", "()V"⟩, 31), (⟨"SqueezedCodeModel", "holdLine", "(I)V"⟩, 31), (⟨"SqueezedCodeModel", "simple", "(II)V"⟩, 31), (⟨"SqueezedCodeModel", "placeOf", "(I)I"⟩, 31), (⟨"SqueezedCodeModel", "byAddress", "()I"⟩, 31)]
theorem lw_r4 : ∀ q ∈ lw_privs_4, lw_okq q := List.forall_mem_cons.mpr ⟨lw_p48, List.forall_mem_cons.mpr ⟨lw_p49, List.forall_mem_cons.mpr ⟨lw_p50, List.forall_mem_cons.mpr ⟨lw_p51, List.forall_mem_cons.mpr ⟨lw_p52, List.forall_mem_cons.mpr ⟨lw_p53, fun _ h => absurd h List.not_mem_nil⟩⟩⟩⟩⟩⟩
def lw_privs : List (MethodName × Nat) := lw_privs_1 ++ (lw_privs_2 ++ (lw_privs_3 ++ (lw_privs_4)))
def lw_tbl : List Cond := k2_sels lw_privs ++ tables_1
theorem lw_privs_ok : ∀ q ∈ lw_privs, lw_okq q := by
  show ∀ q ∈ lw_privs_1 ++ (lw_privs_2 ++ (lw_privs_3 ++ (lw_privs_4))), lw_okq q
  exact List.forall_mem_append.mpr ⟨lw_r1, List.forall_mem_append.mpr ⟨lw_r2, List.forall_mem_append.mpr ⟨lw_r3, lw_r4⟩⟩⟩
end
section
def RX0 : String := "SqueezedCode$Choice"
def TX0 : u_T := fun k => match k with
  | 0 => ("SqueezedCode$Choice", "layout", "LSqueezedCode$Layout;", true)
  | 1 => ("SqueezedCode$Choice", "setup", "LSqueezedCode$Setup;", true)
  | 2 => ("SqueezedCode$Choice", "first", "I", false)
  | 3 => ("SqueezedCode$Choice", "parts", "I", false)
  | 4 => ("SqueezedCode$Choice", "hole", "I", false)
  | _ => ("SqueezedCode$Choice", "greatest", "I", false)
def tyX0 : Nat → FieldType := fun k => match k with
  | 0 => .object "SqueezedCode$Layout"
  | 1 => .object "SqueezedCode$Setup"
  | 2 => .int
  | 3 => .int
  | 4 => .int
  | _ => .int
abbrev wsX00 : List Cond := u_ws RX0 TX0 6
theorem nmX0 : ∀ a, a < 6 → ∀ b, b < 6 → a ≠ b → (TX0 a).2.1 ≠ (TX0 b).2.1 := by decide +kernel
theorem tyX0_ok : ∀ k, k < 6 → parseFieldDescriptor (TX0 k).2.2.1 = some (tyX0 k) := by decide +kernel
abbrev cX0_init : ByteArray := prog_2_method_1_code
def yX0_init : MethodName := ⟨RX0, "<init>", "(LSqueezedCode$Layout;LSqueezedCode$Setup;)V"⟩
abbrev cX0_find : ByteArray := prog_2_method_2_code
def yX0_find : MethodName := ⟨RX0, "find", "()Z"⟩
abbrev cX0_tryAll : ByteArray := prog_2_method_3_code
def yX0_tryAll : MethodName := ⟨RX0, "tryAll", "(II)V"⟩
def RX1 : String := "SqueezedCode$Entry"
def TX1 : u_T := fun k => match k with
  | 0 => ("SqueezedCode$Entry", "kinds", "[I", true)
  | 1 => ("SqueezedCode$Entry", "values", "[I", true)
  | 2 => ("SqueezedCode$Entry", "parts", "I", false)
  | _ => ("SqueezedCode$Entry", "hole", "I", false)
def tyX1 : Nat → FieldType := fun k => match k with
  | 0 => .array .int
  | 1 => .array .int
  | 2 => .int
  | _ => .int
abbrev wsX10 : List Cond := u_ws RX1 TX1 4
theorem nmX1 : ∀ a, a < 4 → ∀ b, b < 4 → a ≠ b → (TX1 a).2.1 ≠ (TX1 b).2.1 := by decide +kernel
theorem tyX1_ok : ∀ k, k < 4 → parseFieldDescriptor (TX1 k).2.2.1 = some (tyX1 k) := by decide +kernel
abbrev cX1_init : ByteArray := prog_3_method_1_code
def yX1_init : MethodName := ⟨RX1, "<init>", "()V"⟩
abbrev cX1_take : ByteArray := prog_3_method_2_code
def yX1_take : MethodName := ⟨RX1, "take", "(LSqueezedCode$Program;III)V"⟩
abbrev cX1_copy : ByteArray := prog_3_method_3_code
def yX1_copy : MethodName := ⟨RX1, "copy", "(LSqueezedCode$Entry;)V"⟩
abbrev cX1_fits : ByteArray := prog_3_method_4_code
def yX1_fits : MethodName := ⟨RX1, "fits", "(LSqueezedCode$Program;I)Z"⟩
def RX2 : String := "SqueezedCode$History"
def TX2 : u_T := fun k => match k with
  | 0 => ("SqueezedCode$History", "kept", "[LSqueezedCode$Setup;", true)
  | _ => ("SqueezedCode$History", "depth", "I", false)
def tyX2 : Nat → FieldType := fun k => match k with
  | 0 => .array (.object "SqueezedCode$Setup")
  | _ => .int
abbrev wsX20 : List Cond := u_ws RX2 TX2 2
theorem nmX2 : ∀ a, a < 2 → ∀ b, b < 2 → a ≠ b → (TX2 a).2.1 ≠ (TX2 b).2.1 := by decide +kernel
theorem tyX2_ok : ∀ k, k < 2 → parseFieldDescriptor (TX2 k).2.2.1 = some (tyX2 k) := by decide +kernel
abbrev cX2_init : ByteArray := prog_4_method_1_code
def yX2_init : MethodName := ⟨RX2, "<init>", "()V"⟩
abbrev cX2_keep : ByteArray := prog_4_method_2_code
def yX2_keep : MethodName := ⟨RX2, "keep", "(LSqueezedCode$Setup;)V"⟩
abbrev cX2_giveBack : ByteArray := prog_4_method_3_code
def yX2_giveBack : MethodName := ⟨RX2, "giveBack", "(LSqueezedCode$Setup;)V"⟩
def RX3 : String := "SqueezedCode$Layout"
def TX3 : u_T := fun k => match k with
  | 0 => ("SqueezedCode$Layout", "program", "LSqueezedCode$Program;", true)
  | 1 => ("SqueezedCode$Layout", "setup", "LSqueezedCode$Setup;", true)
  | 2 => ("SqueezedCode$Layout", "reaches", "[I", true)
  | 3 => ("SqueezedCode$Layout", "shortest", "[[I", true)
  | 4 => ("SqueezedCode$Layout", "fewest", "[I", true)
  | 5 => ("SqueezedCode$Layout", "picks", "[I", true)
  | 6 => ("SqueezedCode$Layout", "trial", "[I", true)
  | 7 => ("SqueezedCode$Layout", "candidate", "LSqueezedCode$Entry;", true)
  | 8 => ("SqueezedCode$Layout", "owners", "[I", true)
  | 9 => ("SqueezedCode$Layout", "places", "[I", true)
  | 10 => ("SqueezedCode$Layout", "addresses", "[I", true)
  | 11 => ("SqueezedCode$Layout", "ends", "[I", true)
  | 12 => ("SqueezedCode$Layout", "nibbles", "[I", true)
  | 13 => ("SqueezedCode$Layout", "length", "I", false)
  | 14 => ("SqueezedCode$Layout", "lines", "I", false)
  | _ => ("SqueezedCode$Layout", "lineShift", "I", false)
def tyX3 : Nat → FieldType := fun k => match k with
  | 0 => .object "SqueezedCode$Program"
  | 1 => .object "SqueezedCode$Setup"
  | 2 => .array .int
  | 3 => .array (.array .int)
  | 4 => .array .int
  | 5 => .array .int
  | 6 => .array .int
  | 7 => .object "SqueezedCode$Entry"
  | 8 => .array .int
  | 9 => .array .int
  | 10 => .array .int
  | 11 => .array .int
  | 12 => .array .int
  | 13 => .int
  | 14 => .int
  | _ => .int
abbrev wsX30 : List Cond := u_ws RX3 TX3 16
theorem nmX3 : ∀ a, a < 16 → ∀ b, b < 16 → a ≠ b → (TX3 a).2.1 ≠ (TX3 b).2.1 := by decide +kernel
theorem tyX3_ok : ∀ k, k < 16 → parseFieldDescriptor (TX3 k).2.2.1 = some (tyX3 k) := by decide +kernel
abbrev cX3_init : ByteArray := prog_5_method_1_code
def yX3_init : MethodName := ⟨RX3, "<init>", "(LSqueezedCode$Program;LSqueezedCode$Setup;)V"⟩
abbrev cX3_reckon : ByteArray := prog_5_method_2_code
def yX3_reckon : MethodName := ⟨RX3, "reckon", "()V"⟩
abbrev cX3_measureReaches : ByteArray := prog_5_method_3_code
def yX3_measureReaches : MethodName := ⟨RX3, "measureReaches", "()V"⟩
abbrev cX3_leadsOn : ByteArray := prog_5_method_4_code
def yX3_leadsOn : MethodName := ⟨RX3, "leadsOn", "(I)Z"⟩
abbrev cX3_findBest : ByteArray := prog_5_method_5_code
def yX3_findBest : MethodName := ⟨RX3, "findBest", "()V"⟩
abbrev cX3_offer : ByteArray := prog_5_method_6_code
def yX3_offer : MethodName := ⟨RX3, "offer", "(II)V"⟩
abbrev cX3_placeAll : ByteArray := prog_5_method_7_code
def yX3_placeAll : MethodName := ⟨RX3, "placeAll", "()V"⟩
abbrev cX3_layNibbles : ByteArray := prog_5_method_8_code
def yX3_layNibbles : MethodName := ⟨RX3, "layNibbles", "()V"⟩
abbrev cX3_layReference : ByteArray := prog_5_method_9_code
def yX3_layReference : MethodName := ⟨RX3, "layReference", "(I)V"⟩
abbrev cX3_layAlone : ByteArray := prog_5_method_10_code
def yX3_layAlone : MethodName := ⟨RX3, "layAlone", "(I)V"⟩
abbrev cX3_isSequence : ByteArray := prog_5_method_11_code
def yX3_isSequence : MethodName := ⟨RX3, "isSequence", "(II)Z"⟩
abbrev cX3_matches : ByteArray := prog_5_method_12_code
def yX3_matches : MethodName := ⟨RX3, "matches", "(LSqueezedCode$Entry;I)Z"⟩
abbrev cX3_gainOf : ByteArray := prog_5_method_13_code
def yX3_gainOf : MethodName := ⟨RX3, "gainOf", "(III)I"⟩
abbrev cX3_fewestWithCandidate : ByteArray := prog_5_method_14_code
def yX3_fewestWithCandidate : MethodName := ⟨RX3, "fewestWithCandidate", "()I"⟩
abbrev cX3_mostGainOf : ByteArray := prog_5_method_15_code
def yX3_mostGainOf : MethodName := ⟨RX3, "mostGainOf", "(III)I"⟩
abbrev cX3_matchesOf : ByteArray := prog_5_method_16_code
def yX3_matchesOf : MethodName := ⟨RX3, "matchesOf", "(LSqueezedCode$Entry;)I"⟩
abbrev cX3_referencesTo : ByteArray := prog_5_method_17_code
def yX3_referencesTo : MethodName := ⟨RX3, "referencesTo", "(I)I"⟩
abbrev cX3_references : ByteArray := prog_5_method_18_code
def yX3_references : MethodName := ⟨RX3, "references", "(II)I"⟩
abbrev cX3_instructionOf : ByteArray := prog_5_method_19_code
def yX3_instructionOf : MethodName := ⟨RX3, "instructionOf", "(I)I"⟩
abbrev cX3_lineOf : ByteArray := prog_5_method_20_code
def yX3_lineOf : MethodName := ⟨RX3, "lineOf", "(I)I"⟩
abbrev cX3_firstOf : ByteArray := prog_5_method_21_code
def yX3_firstOf : MethodName := ⟨RX3, "firstOf", "(I)I"⟩
abbrev cX3_lineAddress : ByteArray := prog_5_method_22_code
def yX3_lineAddress : MethodName := ⟨RX3, "lineAddress", "(I)I"⟩
abbrev cX3_lineNibbles : ByteArray := prog_5_method_23_code
def yX3_lineNibbles : MethodName := ⟨RX3, "lineNibbles", "(I)I"⟩
def RX4 : String := "SqueezedCode$Program"
def TX4 : u_T := fun k => match k with
  | 0 => ("SqueezedCode$Program", "kinds", "[I", true)
  | 1 => ("SqueezedCode$Program", "values", "[I", true)
  | 2 => ("SqueezedCode$Program", "targets", "[Z", true)
  | _ => ("SqueezedCode$Program", "length", "I", false)
def tyX4 : Nat → FieldType := fun k => match k with
  | 0 => .array .int
  | 1 => .array .int
  | 2 => .array .boolean
  | _ => .int
abbrev wsX40 : List Cond := u_ws RX4 TX4 4
theorem nmX4 : ∀ a, a < 4 → ∀ b, b < 4 → a ≠ b → (TX4 a).2.1 ≠ (TX4 b).2.1 := by decide +kernel
theorem tyX4_ok : ∀ k, k < 4 → parseFieldDescriptor (TX4 k).2.2.1 = some (tyX4 k) := by decide +kernel
abbrev cX4_init : ByteArray := prog_6_method_1_code
def yX4_init : MethodName := ⟨RX4, "<init>", "()V"⟩
abbrev cX4_take : ByteArray := prog_6_method_2_code
def yX4_take : MethodName := ⟨RX4, "take", "(LSqueezedCode$Text;)V"⟩
abbrev cX4_has : ByteArray := prog_6_method_3_code
def yX4_has : MethodName := ⟨RX4, "has", "(I)Z"⟩
abbrev cX4_targetCount : ByteArray := prog_6_method_4_code
def yX4_targetCount : MethodName := ⟨RX4, "targetCount", "()I"⟩
abbrev cX4_plainNibbles : ByteArray := prog_6_method_5_code
def yX4_plainNibbles : MethodName := ⟨RX4, "plainNibbles", "()I"⟩
def RX5 : String := "SqueezedCode$Run"
def TX5 : u_T := fun k => match k with
  | 0 => ("SqueezedCode$Run", "program", "LSqueezedCode$Program;", true)
  | 1 => ("SqueezedCode$Run", "layout", "LSqueezedCode$Layout;", true)
  | 2 => ("SqueezedCode$Run", "cells", "[I", true)
  | 3 => ("SqueezedCode$Run", "told", "[I", true)
  | 4 => ("SqueezedCode$Run", "heldLines", "[I", true)
  | 5 => ("SqueezedCode$Run", "exists", "Z", false)
  | 6 => ("SqueezedCode$Run", "ended", "Z", false)
  | 7 => ("SqueezedCode$Run", "squeezed", "Z", false)
  | 8 => ("SqueezedCode$Run", "trapped", "Z", false)
  | 9 => ("SqueezedCode$Run", "next", "I", false)
  | 10 => ("SqueezedCode$Run", "sum", "I", false)
  | 11 => ("SqueezedCode$Run", "steps", "I", false)
  | 12 => ("SqueezedCode$Run", "toldCount", "I", false)
  | 13 => ("SqueezedCode$Run", "mostHeld", "I", false)
  | 14 => ("SqueezedCode$Run", "heldCount", "I", false)
  | 15 => ("SqueezedCode$Run", "misses", "I", false)
  | _ => ("SqueezedCode$Run", "decoded", "I", false)
def tyX5 : Nat → FieldType := fun k => match k with
  | 0 => .object "SqueezedCode$Program"
  | 1 => .object "SqueezedCode$Layout"
  | 2 => .array .int
  | 3 => .array .int
  | 4 => .array .int
  | 5 => .boolean
  | 6 => .boolean
  | 7 => .boolean
  | 8 => .boolean
  | 9 => .int
  | 10 => .int
  | 11 => .int
  | 12 => .int
  | 13 => .int
  | 14 => .int
  | 15 => .int
  | _ => .int
abbrev wsX50 : List Cond := u_ws RX5 TX5 17
theorem nmX5 : ∀ a, a < 17 → ∀ b, b < 17 → a ≠ b → (TX5 a).2.1 ≠ (TX5 b).2.1 := by decide +kernel
theorem tyX5_ok : ∀ k, k < 17 → parseFieldDescriptor (TX5 k).2.2.1 = some (tyX5 k) := by decide +kernel
abbrev cX5_init : ByteArray := prog_7_method_1_code
def yX5_init : MethodName := ⟨RX5, "<init>", "(LSqueezedCode$Program;LSqueezedCode$Layout;)V"⟩
abbrev cX5_begin : ByteArray := prog_7_method_2_code
def yX5_begin : MethodName := ⟨RX5, "begin", "(ZI)V"⟩
abbrev cX5_end : ByteArray := prog_7_method_3_code
def yX5_end : MethodName := ⟨RX5, "end", "()V"⟩
abbrev cX5_go : ByteArray := prog_7_method_4_code
def yX5_go : MethodName := ⟨RX5, "go", "(I)I"⟩
abbrev cX5_takeStep : ByteArray := prog_7_method_5_code
def yX5_takeStep : MethodName := ⟨RX5, "takeStep", "()V"⟩
abbrev cX5_work : ByteArray := prog_7_method_6_code
def yX5_work : MethodName := ⟨RX5, "work", "(II)V"⟩
abbrev cX5_tellOut : ByteArray := prog_7_method_7_code
def yX5_tellOut : MethodName := ⟨RX5, "tellOut", "(I)V"⟩
abbrev cX5_turn : ByteArray := prog_7_method_8_code
def yX5_turn : MethodName := ⟨RX5, "turn", "(II)V"⟩
abbrev cX5_addressOf : ByteArray := prog_7_method_9_code
def yX5_addressOf : MethodName := ⟨RX5, "addressOf", "(I)I"⟩
abbrev cX5_jumpBySum : ByteArray := prog_7_method_10_code
def yX5_jumpBySum : MethodName := ⟨RX5, "jumpBySum", "()V"⟩
abbrev cX5_useLine : ByteArray := prog_7_method_11_code
def yX5_useLine : MethodName := ⟨RX5, "useLine", "(I)V"⟩
abbrev cX5_placeOf : ByteArray := prog_7_method_12_code
def yX5_placeOf : MethodName := ⟨RX5, "placeOf", "(I)I"⟩
abbrev cX5_tell : ByteArray := prog_7_method_13_code
def yX5_tell : MethodName := ⟨RX5, "tell", "(I)I"⟩
def RX6 : String := "SqueezedCode$Setup"
def TX6 : u_T := fun k => match k with
  | 0 => ("SqueezedCode$Setup", "table", "[LSqueezedCode$Entry;", true)
  | 1 => ("SqueezedCode$Setup", "entries", "I", false)
  | 2 => ("SqueezedCode$Setup", "lineWidth", "I", false)
  | _ => ("SqueezedCode$Setup", "mostHeld", "I", false)
def tyX6 : Nat → FieldType := fun k => match k with
  | 0 => .array (.object "SqueezedCode$Entry")
  | 1 => .int
  | 2 => .int
  | _ => .int
abbrev wsX60 : List Cond := u_ws RX6 TX6 4
theorem nmX6 : ∀ a, a < 4 → ∀ b, b < 4 → a ≠ b → (TX6 a).2.1 ≠ (TX6 b).2.1 := by decide +kernel
theorem tyX6_ok : ∀ k, k < 4 → parseFieldDescriptor (TX6 k).2.2.1 = some (tyX6 k) := by decide +kernel
abbrev cX6_init : ByteArray := prog_8_method_1_code
def yX6_init : MethodName := ⟨RX6, "<init>", "()V"⟩
abbrev cX6_copy : ByteArray := prog_8_method_2_code
def yX6_copy : MethodName := ⟨RX6, "copy", "(LSqueezedCode$Setup;)V"⟩
abbrev cX6_has : ByteArray := prog_8_method_3_code
def yX6_has : MethodName := ⟨RX6, "has", "(I)Z"⟩
abbrev cX6_append : ByteArray := prog_8_method_4_code
def yX6_append : MethodName := ⟨RX6, "append", "(LSqueezedCode$Program;III)V"⟩
abbrev cX6_remove : ByteArray := prog_8_method_5_code
def yX6_remove : MethodName := ⟨RX6, "remove", "(I)V"⟩
abbrev cX6_hasAlike : ByteArray := prog_8_method_6_code
def yX6_hasAlike : MethodName := ⟨RX6, "hasAlike", "(LSqueezedCode$Program;III)Z"⟩
abbrev cX6_tableNibbles : ByteArray := prog_8_method_7_code
def yX6_tableNibbles : MethodName := ⟨RX6, "tableNibbles", "()I"⟩
def RX7 : String := "SqueezedCode$Text"
def TX7 : u_T := fun k => match k with
  | 0 => ("SqueezedCode$Text", "letters", "[C", true)
  | 1 => ("SqueezedCode$Text", "starts", "[I", true)
  | 2 => ("SqueezedCode$Text", "length", "I", false)
  | _ => ("SqueezedCode$Text", "instructions", "I", false)
def tyX7 : Nat → FieldType := fun k => match k with
  | 0 => .array .char
  | 1 => .array .int
  | 2 => .int
  | _ => .int
abbrev wsX70 : List Cond := u_ws RX7 TX7 4
theorem nmX7 : ∀ a, a < 4 → ∀ b, b < 4 → a ≠ b → (TX7 a).2.1 ≠ (TX7 b).2.1 := by decide +kernel
theorem tyX7_ok : ∀ k, k < 4 → parseFieldDescriptor (TX7 k).2.2.1 = some (tyX7 k) := by decide +kernel
abbrev cX7_init : ByteArray := prog_9_method_1_code
def yX7_init : MethodName := ⟨RX7, "<init>", "()V"⟩
abbrev cX7_append : ByteArray := prog_9_method_2_code
def yX7_append : MethodName := ⟨RX7, "append", "(C)I"⟩
abbrev cX7_empty : ByteArray := prog_9_method_3_code
def yX7_empty : MethodName := ⟨RX7, "empty", "()I"⟩
abbrev cX7_findFault : ByteArray := prog_9_method_4_code
def yX7_findFault : MethodName := ⟨RX7, "findFault", "()I"⟩
abbrev cX7_findLostTarget : ByteArray := prog_9_method_5_code
def yX7_findLostTarget : MethodName := ⟨RX7, "findLostTarget", "()I"⟩
abbrev cX7_widthAt : ByteArray := prog_9_method_6_code
def yX7_widthAt : MethodName := ⟨RX7, "widthAt", "(I)I"⟩
abbrev cX7_kindOf : ByteArray := prog_9_method_7_code
def yX7_kindOf : MethodName := ⟨RX7, "kindOf", "(I)I"⟩
abbrev cX7_valueOf : ByteArray := prog_9_method_8_code
def yX7_valueOf : MethodName := ⟨RX7, "valueOf", "(I)I"⟩
def RX8 : String := "SqueezedCode"
def TX8 : u_T := fun k => match k with
  | 0 => ("SqueezedCode", "text", "LSqueezedCode$Text;", true)
  | 1 => ("SqueezedCode", "program", "LSqueezedCode$Program;", true)
  | 2 => ("SqueezedCode", "setup", "LSqueezedCode$Setup;", true)
  | 3 => ("SqueezedCode", "history", "LSqueezedCode$History;", true)
  | 4 => ("SqueezedCode", "layout", "LSqueezedCode$Layout;", true)
  | 5 => ("SqueezedCode", "choice", "LSqueezedCode$Choice;", true)
  | _ => ("SqueezedCode", "run", "LSqueezedCode$Run;", true)
def tyX8 : Nat → FieldType := fun k => match k with
  | 0 => .object "SqueezedCode$Text"
  | 1 => .object "SqueezedCode$Program"
  | 2 => .object "SqueezedCode$Setup"
  | 3 => .object "SqueezedCode$History"
  | 4 => .object "SqueezedCode$Layout"
  | 5 => .object "SqueezedCode$Choice"
  | _ => .object "SqueezedCode$Run"
abbrev wsX80 : List Cond := u_ws RX8 TX8 7
theorem nmX8 : ∀ a, a < 7 → ∀ b, b < 7 → a ≠ b → (TX8 a).2.1 ≠ (TX8 b).2.1 := by decide +kernel
theorem tyX8_ok : ∀ k, k < 7 → parseFieldDescriptor (TX8 k).2.2.1 = some (tyX8 k) := by decide +kernel
abbrev cX8_init : ByteArray := prog_1_method_1_code
def yX8_init : MethodName := ⟨RX8, "<init>", "()V"⟩
abbrev cX8_write : ByteArray := prog_1_method_2_code
def yX8_write : MethodName := ⟨RX8, "write", "(I)I"⟩
abbrev cX8_wipe : ByteArray := prog_1_method_3_code
def yX8_wipe : MethodName := ⟨RX8, "wipe", "()I"⟩
abbrev cX8_fault : ByteArray := prog_1_method_4_code
def yX8_fault : MethodName := ⟨RX8, "fault", "()I"⟩
abbrev cX8_lay : ByteArray := prog_1_method_5_code
def yX8_lay : MethodName := ⟨RX8, "lay", "()I"⟩
abbrev cX8_code : ByteArray := prog_1_method_6_code
def yX8_code : MethodName := ⟨RX8, "code", "(II)I"⟩
abbrev cX8_add : ByteArray := prog_1_method_7_code
def yX8_add : MethodName := ⟨RX8, "add", "(III)I"⟩
abbrev cX8_drop : ByteArray := prog_1_method_8_code
def yX8_drop : MethodName := ⟨RX8, "drop", "(I)I"⟩
abbrev cX8_gain : ByteArray := prog_1_method_9_code
def yX8_gain : MethodName := ⟨RX8, "gain", "(III)I"⟩
abbrev cX8_choose : ByteArray := prog_1_method_10_code
def yX8_choose : MethodName := ⟨RX8, "choose", "(I)I"⟩
abbrev cX8_entry : ByteArray := prog_1_method_11_code
def yX8_entry : MethodName := ⟨RX8, "entry", "(II)I"⟩
abbrev cX8_part : ByteArray := prog_1_method_12_code
def yX8_part : MethodName := ⟨RX8, "part", "(III)I"⟩
abbrev cX8_wide : ByteArray := prog_1_method_13_code
def yX8_wide : MethodName := ⟨RX8, "wide", "(I)I"⟩
abbrev cX8_hold : ByteArray := prog_1_method_14_code
def yX8_hold : MethodName := ⟨RX8, "hold", "(I)I"⟩
abbrev cX8_undo : ByteArray := prog_1_method_15_code
def yX8_undo : MethodName := ⟨RX8, "undo", "()I"⟩
abbrev cX8_size : ByteArray := prog_1_method_16_code
def yX8_size : MethodName := ⟨RX8, "size", "(I)I"⟩
abbrev cX8_nibble : ByteArray := prog_1_method_17_code
def yX8_nibble : MethodName := ⟨RX8, "nibble", "(I)I"⟩
abbrev cX8_address : ByteArray := prog_1_method_18_code
def yX8_address : MethodName := ⟨RX8, "address", "(I)I"⟩
abbrev cX8_at : ByteArray := prog_1_method_19_code
def yX8_at : MethodName := ⟨RX8, "at", "(I)I"⟩
abbrev cX8_line : ByteArray := prog_1_method_20_code
def yX8_line : MethodName := ⟨RX8, "line", "(II)I"⟩
abbrev cX8_seek : ByteArray := prog_1_method_21_code
def yX8_seek : MethodName := ⟨RX8, "seek", "(I)I"⟩
abbrev cX8_start : ByteArray := prog_1_method_22_code
def yX8_start : MethodName := ⟨RX8, "start", "(I)I"⟩
abbrev cX8_step : ByteArray := prog_1_method_23_code
def yX8_step : MethodName := ⟨RX8, "step", "(I)I"⟩
abbrev cX8_now : ByteArray := prog_1_method_24_code
def yX8_now : MethodName := ⟨RX8, "now", "(I)I"⟩
abbrev cX8_held : ByteArray := prog_1_method_25_code
def yX8_held : MethodName := ⟨RX8, "held", "(I)I"⟩
abbrev cX8_cell : ByteArray := prog_1_method_26_code
def yX8_cell : MethodName := ⟨RX8, "cell", "(I)I"⟩
abbrev cX8_out : ByteArray := prog_1_method_27_code
def yX8_out : MethodName := ⟨RX8, "out", "(I)I"⟩
abbrev cX8_count : ByteArray := prog_1_method_28_code
def yX8_count : MethodName := ⟨RX8, "count", "(I)I"⟩
abbrev cX8_settle : ByteArray := prog_1_method_29_code
def yX8_settle : MethodName := ⟨RX8, "settle", "()V"⟩
abbrev cX8_hindranceTo : ByteArray := prog_1_method_30_code
def yX8_hindranceTo : MethodName := ⟨RX8, "hindranceTo", "(III)I"⟩
abbrev cX8_letterOf : ByteArray := prog_1_method_31_code
def yX8_letterOf : MethodName := ⟨RX8, "letterOf", "(I)I"⟩
abbrev cX8_isSimple : ByteArray := prog_1_method_32_code
def yX8_isSimple : MethodName := ⟨RX8, "isSimple", "(I)Z"⟩
abbrev cX8_hasTarget : ByteArray := prog_1_method_33_code
def yX8_hasTarget : MethodName := ⟨RX8, "hasTarget", "(I)Z"⟩
abbrev cX8_nibblesOf : ByteArray := prog_1_method_34_code
def yX8_nibblesOf : MethodName := ⟨RX8, "nibblesOf", "(I)I"⟩
abbrev cX8_referenceNibbles : ByteArray := prog_1_method_35_code
def yX8_referenceNibbles : MethodName := ⟨RX8, "referenceNibbles", "(I)I"⟩
abbrev cX8_entryNibbles : ByteArray := prog_1_method_36_code
def yX8_entryNibbles : MethodName := ⟨RX8, "entryNibbles", "(I)I"⟩
def RX9 : String := "SqueezedCodeModel"
def TX9 : u_T := fun k => match k with
  | 0 => ("SqueezedCodeModel", "length", "I", false)
  | 1 => ("SqueezedCodeModel", "text", "[I", true)
  | 2 => ("SqueezedCodeModel", "readMany", "I", false)
  | 3 => ("SqueezedCodeModel", "readLetter", "[I", true)
  | 4 => ("SqueezedCodeModel", "readNumber", "[I", true)
  | 5 => ("SqueezedCodeModel", "many", "I", false)
  | 6 => ("SqueezedCodeModel", "letter", "[I", true)
  | 7 => ("SqueezedCodeModel", "number", "[I", true)
  | 8 => ("SqueezedCodeModel", "isTarget", "[I", true)
  | 9 => ("SqueezedCodeModel", "table", "[I", true)
  | 10 => ("SqueezedCodeModel", "before", "[I", true)
  | 11 => ("SqueezedCodeModel", "undoMany", "I", false)
  | 12 => ("SqueezedCodeModel", "rest", "[I", true)
  | 13 => ("SqueezedCodeModel", "pick", "[I", true)
  | 14 => ("SqueezedCodeModel", "place", "[I", true)
  | 15 => ("SqueezedCodeModel", "isRun", "Z", false)
  | 16 => ("SqueezedCodeModel", "kind", "I", false)
  | 17 => ("SqueezedCodeModel", "next", "I", false)
  | 18 => ("SqueezedCodeModel", "sum", "I", false)
  | 19 => ("SqueezedCodeModel", "steps", "I", false)
  | 20 => ("SqueezedCodeModel", "outs", "I", false)
  | 21 => ("SqueezedCodeModel", "trapped", "I", false)
  | 22 => ("SqueezedCodeModel", "misses", "I", false)
  | 23 => ("SqueezedCodeModel", "decoded", "I", false)
  | 24 => ("SqueezedCodeModel", "cells", "[I", true)
  | 25 => ("SqueezedCodeModel", "out", "[I", true)
  | 26 => ("SqueezedCodeModel", "holds", "I", false)
  | 27 => ("SqueezedCodeModel", "hold", "[I", true)
  | 28 => ("SqueezedCodeModel", "choseAt", "I", false)
  | 29 => ("SqueezedCodeModel", "choseMany", "I", false)
  | _ => ("SqueezedCodeModel", "choseHole", "I", false)
def tyX9 : Nat → FieldType := fun k => match k with
  | 0 => .int
  | 1 => .array .int
  | 2 => .int
  | 3 => .array .int
  | 4 => .array .int
  | 5 => .int
  | 6 => .array .int
  | 7 => .array .int
  | 8 => .array .int
  | 9 => .array .int
  | 10 => .array .int
  | 11 => .int
  | 12 => .array .int
  | 13 => .array .int
  | 14 => .array .int
  | 15 => .boolean
  | 16 => .int
  | 17 => .int
  | 18 => .int
  | 19 => .int
  | 20 => .int
  | 21 => .int
  | 22 => .int
  | 23 => .int
  | 24 => .array .int
  | 25 => .array .int
  | 26 => .int
  | 27 => .array .int
  | 28 => .int
  | 29 => .int
  | _ => .int
abbrev wsX90 : List Cond := u_ws RX9 TX9 31
theorem nmX9 : ∀ a, a < 31 → ∀ b, b < 31 → a ≠ b → (TX9 a).2.1 ≠ (TX9 b).2.1 := by decide +kernel
theorem tyX9_ok : ∀ k, k < 31 → parseFieldDescriptor (TX9 k).2.2.1 = some (tyX9 k) := by decide +kernel
abbrev cX9_init : ByteArray := prog_11_method_1_code
def yX9_init : MethodName := ⟨RX9, "<init>", "()V"⟩
abbrev cX9_in : ByteArray := prog_11_method_2_code
def yX9_in : MethodName := ⟨RX9, "in", "(JJJ)Z"⟩
abbrev cX9_told : ByteArray := prog_11_method_3_code
def yX9_told : MethodName := ⟨RX9, "told", "(IIIIII)V"⟩
abbrev cX9_oneIs : ByteArray := prog_11_method_4_code
def yX9_oneIs : MethodName := ⟨RX9, "oneIs", "(II)V"⟩
abbrev cX9_write : ByteArray := prog_11_method_5_code
def yX9_write : MethodName := ⟨RX9, "write", "(I)I"⟩
abbrev cX9_wipe : ByteArray := prog_11_method_6_code
def yX9_wipe : MethodName := ⟨RX9, "wipe", "()I"⟩
abbrev cX9_isSimple : ByteArray := prog_11_method_7_code
def yX9_isSimple : MethodName := ⟨RX9, "isSimple", "(I)Z"⟩
abbrev cX9_hasPlace : ByteArray := prog_11_method_8_code
def yX9_hasPlace : MethodName := ⟨RX9, "hasPlace", "(I)Z"⟩
abbrev cX9_figureAt : ByteArray := prog_11_method_9_code
def yX9_figureAt : MethodName := ⟨RX9, "figureAt", "(I)I"⟩
abbrev cX9_readOne : ByteArray := prog_11_method_10_code
def yX9_readOne : MethodName := ⟨RX9, "readOne", "(I)I"⟩
abbrev cX9_lettersOf : ByteArray := prog_11_method_11_code
def yX9_lettersOf : MethodName := ⟨RX9, "lettersOf", "(I)I"⟩
abbrev cX9_fault : ByteArray := prog_11_method_12_code
def yX9_fault : MethodName := ⟨RX9, "fault", "()I"⟩
abbrev cX9_lay : ByteArray := prog_11_method_13_code
def yX9_lay : MethodName := ⟨RX9, "lay", "()I"⟩
abbrev cX9_begin : ByteArray := prog_11_method_14_code
def yX9_begin : MethodName := ⟨RX9, "begin", "()V"⟩
abbrev cX9_isCode : ByteArray := prog_11_method_15_code
def yX9_isCode : MethodName := ⟨RX9, "isCode", "(I)Z"⟩
abbrev cX9_isEntry : ByteArray := prog_11_method_16_code
def yX9_isEntry : MethodName := ⟨RX9, "isEntry", "(I)Z"⟩
abbrev cX9_isSequence : ByteArray := prog_11_method_17_code
def yX9_isSequence : MethodName := ⟨RX9, "isSequence", "(II)Z"⟩
abbrev cX9_entryAt : ByteArray := prog_11_method_18_code
def yX9_entryAt : MethodName := ⟨RX9, "entryAt", "(I)I"⟩
abbrev cX9_matches : ByteArray := prog_11_method_19_code
def yX9_matches : MethodName := ⟨RX9, "matches", "(II)Z"⟩
abbrev cX9_lays : ByteArray := prog_11_method_20_code
def yX9_lays : MethodName := ⟨RX9, "lays", "(IIII)V"⟩
abbrev cX9_hasLike : ByteArray := prog_11_method_21_code
def yX9_hasLike : MethodName := ⟨RX9, "hasLike", "(III)Z"⟩
abbrev cX9_refers : ByteArray := prog_11_method_22_code
def yX9_refers : MethodName := ⟨RX9, "refers", "(I)I"⟩
abbrev cX9_own : ByteArray := prog_11_method_23_code
def yX9_own : MethodName := ⟨RX9, "own", "(I)I"⟩
abbrev cX9_coverWith : ByteArray := prog_11_method_24_code
def yX9_coverWith : MethodName := ⟨RX9, "coverWith", "(Z)I"⟩
abbrev cX9_tableSize : ByteArray := prog_11_method_25_code
def yX9_tableSize : MethodName := ⟨RX9, "tableSize", "()I"⟩
abbrev cX9_lines : ByteArray := prog_11_method_26_code
def yX9_lines : MethodName := ⟨RX9, "lines", "()I"⟩
abbrev cX9_cover : ByteArray := prog_11_method_27_code
def yX9_cover : MethodName := ⟨RX9, "cover", "()V"⟩
abbrev cX9_gainOf : ByteArray := prog_11_method_28_code
def yX9_gainOf : MethodName := ⟨RX9, "gainOf", "(III)I"⟩
abbrev cX9_note : ByteArray := prog_11_method_29_code
def yX9_note : MethodName := ⟨RX9, "note", "()V"⟩
abbrev cX9_refusal : ByteArray := prog_11_method_30_code
def yX9_refusal : MethodName := ⟨RX9, "refusal", "(III)I"⟩
abbrev cX9_add : ByteArray := prog_11_method_31_code
def yX9_add : MethodName := ⟨RX9, "add", "(III)I"⟩
abbrev cX9_drop : ByteArray := prog_11_method_32_code
def yX9_drop : MethodName := ⟨RX9, "drop", "(I)I"⟩
abbrev cX9_gain : ByteArray := prog_11_method_33_code
def yX9_gain : MethodName := ⟨RX9, "gain", "(III)I"⟩
abbrev cX9_chooses : ByteArray := prog_11_method_34_code
def yX9_chooses : MethodName := ⟨RX9, "chooses", "()Z"⟩
abbrev cX9_choose : ByteArray := prog_11_method_35_code
def yX9_choose : MethodName := ⟨RX9, "choose", "(I)I"⟩
abbrev cX9_entry : ByteArray := prog_11_method_36_code
def yX9_entry : MethodName := ⟨RX9, "entry", "(II)I"⟩
abbrev cX9_part : ByteArray := prog_11_method_37_code
def yX9_part : MethodName := ⟨RX9, "part", "(III)I"⟩
abbrev cX9_wide : ByteArray := prog_11_method_38_code
def yX9_wide : MethodName := ⟨RX9, "wide", "(I)I"⟩
abbrev cX9_hold : ByteArray := prog_11_method_39_code
def yX9_hold : MethodName := ⟨RX9, "hold", "(I)I"⟩
abbrev cX9_undo : ByteArray := prog_11_method_40_code
def yX9_undo : MethodName := ⟨RX9, "undo", "()I"⟩
abbrev cX9_code : ByteArray := prog_11_method_41_code
def yX9_code : MethodName := ⟨RX9, "code", "(II)I"⟩
abbrev cX9_headOf : ByteArray := prog_11_method_42_code
def yX9_headOf : MethodName := ⟨RX9, "headOf", "(I)I"⟩
abbrev cX9_references : ByteArray := prog_11_method_43_code
def yX9_references : MethodName := ⟨RX9, "references", "(II)I"⟩
abbrev cX9_size : ByteArray := prog_11_method_44_code
def yX9_size : MethodName := ⟨RX9, "size", "(I)I"⟩
abbrev cX9_kindOf : ByteArray := prog_11_method_45_code
def yX9_kindOf : MethodName := ⟨RX9, "kindOf", "(I)I"⟩
abbrev cX9_nibbleOf : ByteArray := prog_11_method_46_code
def yX9_nibbleOf : MethodName := ⟨RX9, "nibbleOf", "(II)I"⟩
abbrev cX9_nibble : ByteArray := prog_11_method_47_code
def yX9_nibble : MethodName := ⟨RX9, "nibble", "(I)I"⟩
abbrev cX9_address : ByteArray := prog_11_method_48_code
def yX9_address : MethodName := ⟨RX9, "address", "(I)I"⟩
abbrev cX9_at : ByteArray := prog_11_method_49_code
def yX9_at : MethodName := ⟨RX9, "at", "(I)I"⟩
abbrev cX9_lineEnd : ByteArray := prog_11_method_50_code
def yX9_lineEnd : MethodName := ⟨RX9, "lineEnd", "(I)I"⟩
abbrev cX9_line : ByteArray := prog_11_method_51_code
def yX9_line : MethodName := ⟨RX9, "line", "(II)I"⟩
abbrev cX9_seek : ByteArray := prog_11_method_52_code
def yX9_seek : MethodName := ⟨RX9, "seek", "(I)I"⟩
abbrev cX9_start : ByteArray := prog_11_method_53_code
def yX9_start : MethodName := ⟨RX9, "start", "(I)I"⟩
abbrev cX9_goesOn : ByteArray := prog_11_method_54_code
def yX9_goesOn : MethodName := ⟨RX9, "goesOn", "()Z"⟩
abbrev cX9_placeOf : ByteArray := prog_11_method_55_code
def yX9_placeOf : MethodName := ⟨RX9, "placeOf", "(I)I"⟩
abbrev cX9_byAddress : ByteArray := prog_11_method_56_code
def yX9_byAddress : MethodName := ⟨RX9, "byAddress", "()I"⟩
abbrev cX9_holdLine : ByteArray := prog_11_method_57_code
def yX9_holdLine : MethodName := ⟨RX9, "holdLine", "(I)V"⟩
abbrev cX9_simple : ByteArray := prog_11_method_58_code
def yX9_simple : MethodName := ⟨RX9, "simple", "(II)V"⟩
abbrev cX9_oneStep : ByteArray := prog_11_method_59_code
def yX9_oneStep : MethodName := ⟨RX9, "oneStep", "()V"⟩
abbrev cX9_step : ByteArray := prog_11_method_60_code
def yX9_step : MethodName := ⟨RX9, "step", "(I)I"⟩
abbrev cX9_now : ByteArray := prog_11_method_61_code
def yX9_now : MethodName := ⟨RX9, "now", "(I)I"⟩
abbrev cX9_held : ByteArray := prog_11_method_62_code
def yX9_held : MethodName := ⟨RX9, "held", "(I)I"⟩
abbrev cX9_cell : ByteArray := prog_11_method_63_code
def yX9_cell : MethodName := ⟨RX9, "cell", "(I)I"⟩
abbrev cX9_out : ByteArray := prog_11_method_64_code
def yX9_out : MethodName := ⟨RX9, "out", "(I)I"⟩
abbrev cX9_count : ByteArray := prog_11_method_65_code
def yX9_count : MethodName := ⟨RX9, "count", "(I)I"⟩
def RJ11 : String := "java/lang/Character"
def TJ11 : u_T := fun k => match k with
  | _ => ("", "", "", false)
def tyJ11 : Nat → FieldType := fun k => match k with
  | _ => .int
theorem tyJ11_ok : ∀ k, k < 0 → parseFieldDescriptor (TJ11 k).2.2.1 = some (tyJ11 k) := by decide +kernel
abbrev cJ11_isValidCodePoint_9a6ad : ByteArray := prog_12_method_11_code
def yJ11_isValidCodePoint_9a6ad : MethodName := ⟨RJ11, "isValidCodePoint", "(I)Z"⟩
abbrev cJ11_highSurrogate_5068e : ByteArray := prog_12_method_28_code
def yJ11_highSurrogate_5068e : MethodName := ⟨RJ11, "highSurrogate", "(I)C"⟩
abbrev cJ11_lowSurrogate_5068e : ByteArray := prog_12_method_29_code
def yJ11_lowSurrogate_5068e : MethodName := ⟨RJ11, "lowSurrogate", "(I)C"⟩
def RJ9 : String := "java/lang/Math"
def TJ9 : u_T := fun k => match k with
  | _ => ("", "", "", false)
def tyJ9 : Nat → FieldType := fun k => match k with
  | _ => .int
theorem tyJ9_ok : ∀ k, k < 0 → parseFieldDescriptor (TJ9 k).2.2.1 = some (tyJ9 k) := by decide +kernel
abbrev cJ9_max_7cf53 : ByteArray := prog_13_method_65_code
def yJ9_max_7cf53 : MethodName := ⟨RJ9, "max", "(II)I"⟩
abbrev cJ9_min_7cf53 : ByteArray := prog_13_method_69_code
def yJ9_min_7cf53 : MethodName := ⟨RJ9, "min", "(II)I"⟩
def RJ0 : String := "java/lang/String"
def TJ0 : u_T := fun k => match k with
  | _ => ("", "", "", false)
def tyJ0 : Nat → FieldType := fun k => match k with
  | _ => .int
theorem tyJ0_ok : ∀ k, k < 0 → parseFieldDescriptor (TJ0 k).2.2.1 = some (tyJ0 k) := by decide +kernel
abbrev cJ0_length_8abf5 : ByteArray := prog_14_method_54_code
def yJ0_length_8abf5 : MethodName := ⟨RJ0, "length", "()I"⟩
abbrev cJ0_charAt_5068e : ByteArray := prog_14_method_56_code
def yJ0_charAt_5068e : MethodName := ⟨RJ0, "charAt", "(I)C"⟩
abbrev cJ0_indexOf_0f7a4 : ByteArray := prog_14_method_79_code
def yJ0_indexOf_0f7a4 : MethodName := ⟨RJ0, "indexOf", "(I)I"⟩
abbrev cJ0_indexOf_7cf53 : ByteArray := prog_14_method_80_code
def yJ0_indexOf_7cf53 : MethodName := ⟨RJ0, "indexOf", "(II)I"⟩
abbrev cJ0_coder_7d493 : ByteArray := prog_14_method_152_code
def yJ0_coder_7d493 : MethodName := ⟨RJ0, "coder", "()B"⟩
abbrev cJ0_isLatin1_aae02 : ByteArray := prog_14_method_154_code
def yJ0_isLatin1_aae02 : MethodName := ⟨RJ0, "isLatin1", "()Z"⟩
abbrev cJ0_checkIndex_df160 : ByteArray := prog_14_method_155_code
def yJ0_checkIndex_df160 : MethodName := ⟨RJ0, "checkIndex", "(II)V"⟩
abbrev cJ0_checkBoundsBeginEnd_23922 : ByteArray := prog_14_method_158_code
def yJ0_checkBoundsBeginEnd_23922 : MethodName := ⟨RJ0, "checkBoundsBeginEnd", "(III)V"⟩
def RJ1 : String := "java/lang/StringLatin1"
def TJ1 : u_T := fun k => match k with
  | _ => ("", "", "", false)
def tyJ1 : Nat → FieldType := fun k => match k with
  | _ => .int
theorem tyJ1_ok : ∀ k, k < 0 → parseFieldDescriptor (TJ1 k).2.2.1 = some (tyJ1 k) := by decide +kernel
abbrev cJ1_charAt_3b067 : ByteArray := prog_15_method_2_code
def yJ1_charAt_3b067 : MethodName := ⟨RJ1, "charAt", "([BI)C"⟩
abbrev cJ1_canEncode_9a6ad : ByteArray := prog_15_method_4_code
def yJ1_canEncode_9a6ad : MethodName := ⟨RJ1, "canEncode", "(I)Z"⟩
abbrev cJ1_indexOf_4cfef : ByteArray := prog_15_method_22_code
def yJ1_indexOf_4cfef : MethodName := ⟨RJ1, "indexOf", "([BIII)I"⟩
abbrev cJ1_indexOfChar_4cfef : ByteArray := prog_15_method_23_code
def yJ1_indexOfChar_4cfef : MethodName := ⟨RJ1, "indexOfChar", "([BIII)I"⟩
def RJ2 : String := "java/lang/StringUTF16"
def TJ2 : u_T := fun k => match k with
  | _ => ("", "", "", false)
def tyJ2 : Nat → FieldType := fun k => match k with
  | _ => .int
theorem tyJ2_ok : ∀ k, k < 0 → parseFieldDescriptor (TJ2 k).2.2.1 = some (tyJ2 k) := by decide +kernel
abbrev cJ2_getChar_3b067 : ByteArray := prog_16_method_5_code
def yJ2_getChar_3b067 : MethodName := ⟨RJ2, "getChar", "([BI)C"⟩
abbrev cJ2_length_9d52b : ByteArray := prog_16_method_6_code
def yJ2_length_9d52b : MethodName := ⟨RJ2, "length", "([B)I"⟩
abbrev cJ2_indexOf_4cfef : ByteArray := prog_16_method_40_code
def yJ2_indexOf_4cfef : MethodName := ⟨RJ2, "indexOf", "([BIII)I"⟩
abbrev cJ2_indexOfChar_4cfef : ByteArray := prog_16_method_47_code
def yJ2_indexOfChar_4cfef : MethodName := ⟨RJ2, "indexOfChar", "([BIII)I"⟩
abbrev cJ2_indexOfCharUnsafe_4cfef : ByteArray := prog_16_method_48_code
def yJ2_indexOfCharUnsafe_4cfef : MethodName := ⟨RJ2, "indexOfCharUnsafe", "([BIII)I"⟩
abbrev cJ2_indexOfSupplementary_4cfef : ByteArray := prog_16_method_49_code
def yJ2_indexOfSupplementary_4cfef : MethodName := ⟨RJ2, "indexOfSupplementary", "([BIII)I"⟩
abbrev cJ2_charAt_3b067 : ByteArray := prog_16_method_83_code
def yJ2_charAt_3b067 : MethodName := ⟨RJ2, "charAt", "([BI)C"⟩
abbrev cJ2_checkIndex_2214a : ByteArray := prog_16_method_91_code
def yJ2_checkIndex_2214a : MethodName := ⟨RJ2, "checkIndex", "(I[B)V"⟩
abbrev cJ2_checkBoundsBeginEnd_d044e : ByteArray := prog_16_method_93_code
def yJ2_checkBoundsBeginEnd_d044e : MethodName := ⟨RJ2, "checkBoundsBeginEnd", "(II[B)V"⟩
def RJ3 : String := "jdk/internal/util/Preconditions"
def TJ3 : u_T := fun k => match k with
  | _ => ("", "", "", false)
def tyJ3 : Nat → FieldType := fun k => match k with
  | _ => .int
theorem tyJ3_ok : ∀ k, k < 0 → parseFieldDescriptor (TJ3 k).2.2.1 = some (tyJ3 k) := by decide +kernel
abbrev cJ3_checkIndex_8e157 : ByteArray := prog_17_method_11_code
def yJ3_checkIndex_8e157 : MethodName := ⟨RJ3, "checkIndex", "(IILjava/util/function/BiFunction;)I"⟩
abbrev cJ3_checkFromToIndex_8c36e : ByteArray := prog_17_method_12_code
def yJ3_checkFromToIndex_8c36e : MethodName := ⟨RJ3, "checkFromToIndex", "(IIILjava/util/function/BiFunction;)I"⟩
def RL : String := "SqueezedCodeLaw"
abbrev cL_law : ByteArray := code
abbrev vwCl : List vw_C := [(RX0, TX0, 6), (RX1, TX1, 4), (RX2, TX2, 2), (RX3, TX3, 16), (RX4, TX4, 4), (RX5, TX5, 17), (RX6, TX6, 4), (RX7, TX7, 4), (RX8, TX8, 7), (RX9, TX9, 31)]
end
section
theorem dX0_init_0 : decode cX0_init 0 = .ok (.aload_n 0, 1) := by decide +kernel
theorem dX0_init_1 : decode cX0_init 1 = .ok (.invokespecial 3, 3) := by decide +kernel
theorem dX0_init_4 : decode cX0_init 4 = .ok (.aload_n 0, 1) := by decide +kernel
theorem dX0_init_5 : decode cX0_init 5 = .ok (.aload_n 1, 1) := by decide +kernel
theorem dX0_init_6 : decode cX0_init 6 = .ok (.putfield 9, 3) := by decide +kernel
theorem dX0_init_9 : decode cX0_init 9 = .ok (.aload_n 0, 1) := by decide +kernel
theorem dX0_init_10 : decode cX0_init 10 = .ok (.aload_n 2, 1) := by decide +kernel
theorem dX0_init_11 : decode cX0_init 11 = .ok (.putfield 15, 3) := by decide +kernel
theorem dX0_init_14 : decode cX0_init 14 = .ok (.return_, 1) := by decide +kernel
theorem dX0_find_0 : decode cX0_find 0 = .ok (.aload_n 0, 1) := by decide +kernel
theorem dX0_find_1 : decode cX0_find 1 = .ok (.iconst 0, 1) := by decide +kernel
theorem dX0_find_2 : decode cX0_find 2 = .ok (.putfield 19, 3) := by decide +kernel
theorem dX0_find_5 : decode cX0_find 5 = .ok (.aload_n 0, 1) := by decide +kernel
theorem dX0_find_6 : decode cX0_find 6 = .ok (.getfield 15, 3) := by decide +kernel
theorem dX0_find_9 : decode cX0_find 9 = .ok (.getfield 23, 3) := by decide +kernel
theorem dX0_find_12 : decode cX0_find 12 = .ok (.bipush 8, 2) := by decide +kernel
theorem dX0_find_14 : decode cX0_find 14 = .ok (.if_icmp .lt 5, 3) := by decide +kernel
theorem dX0_find_17 : decode cX0_find 17 = .ok (.iconst 0, 1) := by decide +kernel
theorem dX0_find_18 : decode cX0_find 18 = .ok (.ireturn, 1) := by decide +kernel
theorem dX0_find_19 : decode cX0_find 19 = .ok (.iconst 2, 1) := by decide +kernel
theorem dX0_find_20 : decode cX0_find 20 = .ok (.istore_n 1, 1) := by decide +kernel
theorem dX0_find_21 : decode cX0_find 21 = .ok (.iload_n 1, 1) := by decide +kernel
theorem dX0_find_22 : decode cX0_find 22 = .ok (.iconst 4, 1) := by decide +kernel
theorem dX0_find_23 : decode cX0_find 23 = .ok (.if_icmp .gt 28, 3) := by decide +kernel
theorem dX0_find_26 : decode cX0_find 26 = .ok (.iconst (-1), 1) := by decide +kernel
theorem dX0_find_27 : decode cX0_find 27 = .ok (.istore_n 2, 1) := by decide +kernel
theorem dX0_find_28 : decode cX0_find 28 = .ok (.iload_n 2, 1) := by decide +kernel
theorem dX0_find_29 : decode cX0_find 29 = .ok (.iload_n 1, 1) := by decide +kernel
theorem dX0_find_30 : decode cX0_find 30 = .ok (.if_icmp .ge 15, 3) := by decide +kernel
theorem dX0_find_33 : decode cX0_find 33 = .ok (.aload_n 0, 1) := by decide +kernel
theorem dX0_find_34 : decode cX0_find 34 = .ok (.iload_n 1, 1) := by decide +kernel
theorem dX0_find_35 : decode cX0_find 35 = .ok (.iload_n 2, 1) := by decide +kernel
theorem dX0_find_36 : decode cX0_find 36 = .ok (.invokevirtual 28, 3) := by decide +kernel
theorem dX0_find_39 : decode cX0_find 39 = .ok (.iinc 2 1, 3) := by decide +kernel
theorem dX0_find_42 : decode cX0_find 42 = .ok (.goto (-14), 3) := by decide +kernel
theorem dX0_find_45 : decode cX0_find 45 = .ok (.iinc 1 1, 3) := by decide +kernel
theorem dX0_find_48 : decode cX0_find 48 = .ok (.goto (-27), 3) := by decide +kernel
theorem dX0_find_51 : decode cX0_find 51 = .ok (.aload_n 0, 1) := by decide +kernel
theorem dX0_find_52 : decode cX0_find 52 = .ok (.getfield 19, 3) := by decide +kernel
theorem dX0_find_55 : decode cX0_find 55 = .ok (.ifCond .le 7, 3) := by decide +kernel
theorem dX0_find_58 : decode cX0_find 58 = .ok (.iconst 1, 1) := by decide +kernel
theorem dX0_find_59 : decode cX0_find 59 = .ok (.goto 4, 3) := by decide +kernel
theorem dX0_find_62 : decode cX0_find 62 = .ok (.iconst 0, 1) := by decide +kernel
theorem dX0_find_63 : decode cX0_find 63 = .ok (.ireturn, 1) := by decide +kernel
theorem dX0_tryAll_0 : decode cX0_tryAll 0 = .ok (.iconst 0, 1) := by decide +kernel
theorem dX0_tryAll_1 : decode cX0_tryAll 1 = .ok (.istore_n 3, 1) := by decide +kernel
theorem dX0_tryAll_2 : decode cX0_tryAll 2 = .ok (.iload_n 3, 1) := by decide +kernel
theorem dX0_tryAll_3 : decode cX0_tryAll 3 = .ok (.aload_n 0, 1) := by decide +kernel
theorem dX0_tryAll_4 : decode cX0_tryAll 4 = .ok (.getfield 9, 3) := by decide +kernel
theorem dX0_tryAll_7 : decode cX0_tryAll 7 = .ok (.getfield 32, 3) := by decide +kernel
theorem dX0_tryAll_10 : decode cX0_tryAll 10 = .ok (.getfield 38, 3) := by decide +kernel
theorem dX0_tryAll_13 : decode cX0_tryAll 13 = .ok (.if_icmp .ge 83, 3) := by decide +kernel
theorem dX0_tryAll_16 : decode cX0_tryAll 16 = .ok (.aload_n 0, 1) := by decide +kernel
theorem dX0_tryAll_17 : decode cX0_tryAll 17 = .ok (.getfield 9, 3) := by decide +kernel
theorem dX0_tryAll_20 : decode cX0_tryAll 20 = .ok (.iload_n 3, 1) := by decide +kernel
theorem dX0_tryAll_21 : decode cX0_tryAll 21 = .ok (.iload_n 1, 1) := by decide +kernel
theorem dX0_tryAll_22 : decode cX0_tryAll 22 = .ok (.invokevirtual 43, 3) := by decide +kernel
theorem dX0_tryAll_25 : decode cX0_tryAll 25 = .ok (.ifCond .eq 65, 3) := by decide +kernel
theorem dX0_tryAll_28 : decode cX0_tryAll 28 = .ok (.aload_n 0, 1) := by decide +kernel
theorem dX0_tryAll_29 : decode cX0_tryAll 29 = .ok (.getfield 9, 3) := by decide +kernel
theorem dX0_tryAll_32 : decode cX0_tryAll 32 = .ok (.iload_n 3, 1) := by decide +kernel
theorem dX0_tryAll_33 : decode cX0_tryAll 33 = .ok (.iload_n 1, 1) := by decide +kernel
theorem dX0_tryAll_34 : decode cX0_tryAll 34 = .ok (.iload_n 2, 1) := by decide +kernel
theorem dX0_tryAll_35 : decode cX0_tryAll 35 = .ok (.invokevirtual 47, 3) := by decide +kernel
theorem dX0_tryAll_38 : decode cX0_tryAll 38 = .ok (.aload_n 0, 1) := by decide +kernel
theorem dX0_tryAll_39 : decode cX0_tryAll 39 = .ok (.getfield 19, 3) := by decide +kernel
theorem dX0_tryAll_42 : decode cX0_tryAll 42 = .ok (.if_icmp .gt 6, 3) := by decide +kernel
theorem dX0_tryAll_45 : decode cX0_tryAll 45 = .ok (.goto 45, 3) := by decide +kernel
theorem dX0_tryAll_48 : decode cX0_tryAll 48 = .ok (.aload_n 0, 1) := by decide +kernel
theorem dX0_tryAll_49 : decode cX0_tryAll 49 = .ok (.getfield 9, 3) := by decide +kernel
theorem dX0_tryAll_52 : decode cX0_tryAll 52 = .ok (.iload_n 3, 1) := by decide +kernel
theorem dX0_tryAll_53 : decode cX0_tryAll 53 = .ok (.iload_n 1, 1) := by decide +kernel
theorem dX0_tryAll_54 : decode cX0_tryAll 54 = .ok (.iload_n 2, 1) := by decide +kernel
theorem dX0_tryAll_55 : decode cX0_tryAll 55 = .ok (.invokevirtual 51, 3) := by decide +kernel
theorem dX0_tryAll_58 : decode cX0_tryAll 58 = .ok (.istore 4, 2) := by decide +kernel
theorem dX0_tryAll_60 : decode cX0_tryAll 60 = .ok (.iload 4, 2) := by decide +kernel
theorem dX0_tryAll_62 : decode cX0_tryAll 62 = .ok (.aload_n 0, 1) := by decide +kernel
theorem dX0_tryAll_63 : decode cX0_tryAll 63 = .ok (.getfield 19, 3) := by decide +kernel
theorem dX0_tryAll_66 : decode cX0_tryAll 66 = .ok (.if_icmp .le 24, 3) := by decide +kernel
theorem dX0_tryAll_69 : decode cX0_tryAll 69 = .ok (.aload_n 0, 1) := by decide +kernel
theorem dX0_tryAll_70 : decode cX0_tryAll 70 = .ok (.iload 4, 2) := by decide +kernel
theorem dX0_tryAll_72 : decode cX0_tryAll 72 = .ok (.putfield 19, 3) := by decide +kernel
theorem dX0_tryAll_75 : decode cX0_tryAll 75 = .ok (.aload_n 0, 1) := by decide +kernel
theorem dX0_tryAll_76 : decode cX0_tryAll 76 = .ok (.iload_n 3, 1) := by decide +kernel
theorem dX0_tryAll_77 : decode cX0_tryAll 77 = .ok (.putfield 54, 3) := by decide +kernel
theorem dX0_tryAll_80 : decode cX0_tryAll 80 = .ok (.aload_n 0, 1) := by decide +kernel
theorem dX0_tryAll_81 : decode cX0_tryAll 81 = .ok (.iload_n 1, 1) := by decide +kernel
theorem dX0_tryAll_82 : decode cX0_tryAll 82 = .ok (.putfield 57, 3) := by decide +kernel
theorem dX0_tryAll_85 : decode cX0_tryAll 85 = .ok (.aload_n 0, 1) := by decide +kernel
theorem dX0_tryAll_86 : decode cX0_tryAll 86 = .ok (.iload_n 2, 1) := by decide +kernel
theorem dX0_tryAll_87 : decode cX0_tryAll 87 = .ok (.putfield 60, 3) := by decide +kernel
theorem dX0_tryAll_90 : decode cX0_tryAll 90 = .ok (.iinc 3 1, 3) := by decide +kernel
theorem dX0_tryAll_93 : decode cX0_tryAll 93 = .ok (.goto (-91), 3) := by decide +kernel
theorem dX0_tryAll_96 : decode cX0_tryAll 96 = .ok (.return_, 1) := by decide +kernel
theorem dX1_init_0 : decode cX1_init 0 = .ok (.aload_n 0, 1) := by decide +kernel
theorem dX1_init_1 : decode cX1_init 1 = .ok (.invokespecial 3, 3) := by decide +kernel
theorem dX1_init_4 : decode cX1_init 4 = .ok (.aload_n 0, 1) := by decide +kernel
theorem dX1_init_5 : decode cX1_init 5 = .ok (.iconst 4, 1) := by decide +kernel
theorem dX1_init_6 : decode cX1_init 6 = .ok (.newarray .int, 2) := by decide +kernel
theorem dX1_init_8 : decode cX1_init 8 = .ok (.putfield 9, 3) := by decide +kernel
theorem dX1_init_11 : decode cX1_init 11 = .ok (.aload_n 0, 1) := by decide +kernel
theorem dX1_init_12 : decode cX1_init 12 = .ok (.iconst 4, 1) := by decide +kernel
theorem dX1_init_13 : decode cX1_init 13 = .ok (.newarray .int, 2) := by decide +kernel
theorem dX1_init_15 : decode cX1_init 15 = .ok (.putfield 15, 3) := by decide +kernel
theorem dX1_init_18 : decode cX1_init 18 = .ok (.return_, 1) := by decide +kernel
theorem dX1_take_0 : decode cX1_take 0 = .ok (.aload_n 0, 1) := by decide +kernel
theorem dX1_take_1 : decode cX1_take 1 = .ok (.iload_n 3, 1) := by decide +kernel
theorem dX1_take_2 : decode cX1_take 2 = .ok (.putfield 18, 3) := by decide +kernel
theorem dX1_take_5 : decode cX1_take 5 = .ok (.aload_n 0, 1) := by decide +kernel
theorem dX1_take_6 : decode cX1_take 6 = .ok (.iload 4, 2) := by decide +kernel
theorem dX1_take_8 : decode cX1_take 8 = .ok (.ifCond .ge 8, 3) := by decide +kernel
theorem dX1_take_11 : decode cX1_take 11 = .ok (.bipush (-4), 2) := by decide +kernel
theorem dX1_take_13 : decode cX1_take 13 = .ok (.goto 5, 3) := by decide +kernel
theorem dX1_take_16 : decode cX1_take 16 = .ok (.iload 4, 2) := by decide +kernel
theorem dX1_take_18 : decode cX1_take 18 = .ok (.putfield 22, 3) := by decide +kernel
theorem dX1_take_21 : decode cX1_take 21 = .ok (.iconst 0, 1) := by decide +kernel
theorem dX1_take_22 : decode cX1_take 22 = .ok (.istore 5, 2) := by decide +kernel
theorem dX1_take_24 : decode cX1_take 24 = .ok (.iload 5, 2) := by decide +kernel
theorem dX1_take_26 : decode cX1_take 26 = .ok (.iload_n 3, 1) := by decide +kernel
theorem dX1_take_27 : decode cX1_take 27 = .ok (.if_icmp .ge 41, 3) := by decide +kernel
theorem dX1_take_30 : decode cX1_take 30 = .ok (.aload_n 0, 1) := by decide +kernel
theorem dX1_take_31 : decode cX1_take 31 = .ok (.getfield 9, 3) := by decide +kernel
theorem dX1_take_34 : decode cX1_take 34 = .ok (.iload 5, 2) := by decide +kernel
theorem dX1_take_36 : decode cX1_take 36 = .ok (.aload_n 1, 1) := by decide +kernel
theorem dX1_take_37 : decode cX1_take 37 = .ok (.getfield 25, 3) := by decide +kernel
theorem dX1_take_40 : decode cX1_take 40 = .ok (.iload_n 2, 1) := by decide +kernel
theorem dX1_take_41 : decode cX1_take 41 = .ok (.iload 5, 2) := by decide +kernel
theorem dX1_take_43 : decode cX1_take 43 = .ok (.iadd, 1) := by decide +kernel
theorem dX1_take_44 : decode cX1_take 44 = .ok (.iaload, 1) := by decide +kernel
theorem dX1_take_45 : decode cX1_take 45 = .ok (.iastore, 1) := by decide +kernel
theorem dX1_take_46 : decode cX1_take 46 = .ok (.aload_n 0, 1) := by decide +kernel
theorem dX1_take_47 : decode cX1_take 47 = .ok (.getfield 15, 3) := by decide +kernel
theorem dX1_take_50 : decode cX1_take 50 = .ok (.iload 5, 2) := by decide +kernel
theorem dX1_take_52 : decode cX1_take 52 = .ok (.aload_n 1, 1) := by decide +kernel
theorem dX1_take_53 : decode cX1_take 53 = .ok (.getfield 28, 3) := by decide +kernel
theorem dX1_take_56 : decode cX1_take 56 = .ok (.iload_n 2, 1) := by decide +kernel
theorem dX1_take_57 : decode cX1_take 57 = .ok (.iload 5, 2) := by decide +kernel
theorem dX1_take_59 : decode cX1_take 59 = .ok (.iadd, 1) := by decide +kernel
theorem dX1_take_60 : decode cX1_take 60 = .ok (.iaload, 1) := by decide +kernel
theorem dX1_take_61 : decode cX1_take 61 = .ok (.iastore, 1) := by decide +kernel
theorem dX1_take_62 : decode cX1_take 62 = .ok (.iinc 5 1, 3) := by decide +kernel
theorem dX1_take_65 : decode cX1_take 65 = .ok (.goto (-41), 3) := by decide +kernel
theorem dX1_take_68 : decode cX1_take 68 = .ok (.return_, 1) := by decide +kernel
theorem dX1_copy_0 : decode cX1_copy 0 = .ok (.aload_n 0, 1) := by decide +kernel
theorem dX1_copy_1 : decode cX1_copy 1 = .ok (.aload_n 1, 1) := by decide +kernel
theorem dX1_copy_2 : decode cX1_copy 2 = .ok (.getfield 18, 3) := by decide +kernel
theorem dX1_copy_5 : decode cX1_copy 5 = .ok (.putfield 18, 3) := by decide +kernel
theorem dX1_copy_8 : decode cX1_copy 8 = .ok (.aload_n 0, 1) := by decide +kernel
theorem dX1_copy_9 : decode cX1_copy 9 = .ok (.aload_n 1, 1) := by decide +kernel
theorem dX1_copy_10 : decode cX1_copy 10 = .ok (.getfield 22, 3) := by decide +kernel
theorem dX1_copy_13 : decode cX1_copy 13 = .ok (.putfield 22, 3) := by decide +kernel
theorem dX1_copy_16 : decode cX1_copy 16 = .ok (.iconst 0, 1) := by decide +kernel
theorem dX1_copy_17 : decode cX1_copy 17 = .ok (.istore_n 2, 1) := by decide +kernel
theorem dX1_copy_18 : decode cX1_copy 18 = .ok (.iload_n 2, 1) := by decide +kernel
theorem dX1_copy_19 : decode cX1_copy 19 = .ok (.iconst 4, 1) := by decide +kernel
theorem dX1_copy_20 : decode cX1_copy 20 = .ok (.if_icmp .ge 33, 3) := by decide +kernel
theorem dX1_copy_23 : decode cX1_copy 23 = .ok (.aload_n 0, 1) := by decide +kernel
theorem dX1_copy_24 : decode cX1_copy 24 = .ok (.getfield 9, 3) := by decide +kernel
theorem dX1_copy_27 : decode cX1_copy 27 = .ok (.iload_n 2, 1) := by decide +kernel
theorem dX1_copy_28 : decode cX1_copy 28 = .ok (.aload_n 1, 1) := by decide +kernel
theorem dX1_copy_29 : decode cX1_copy 29 = .ok (.getfield 9, 3) := by decide +kernel
theorem dX1_copy_32 : decode cX1_copy 32 = .ok (.iload_n 2, 1) := by decide +kernel
theorem dX1_copy_33 : decode cX1_copy 33 = .ok (.iaload, 1) := by decide +kernel
theorem dX1_copy_34 : decode cX1_copy 34 = .ok (.iastore, 1) := by decide +kernel
theorem dX1_copy_35 : decode cX1_copy 35 = .ok (.aload_n 0, 1) := by decide +kernel
theorem dX1_copy_36 : decode cX1_copy 36 = .ok (.getfield 15, 3) := by decide +kernel
theorem dX1_copy_39 : decode cX1_copy 39 = .ok (.iload_n 2, 1) := by decide +kernel
theorem dX1_copy_40 : decode cX1_copy 40 = .ok (.aload_n 1, 1) := by decide +kernel
theorem dX1_copy_41 : decode cX1_copy 41 = .ok (.getfield 15, 3) := by decide +kernel
theorem dX1_copy_44 : decode cX1_copy 44 = .ok (.iload_n 2, 1) := by decide +kernel
theorem dX1_copy_45 : decode cX1_copy 45 = .ok (.iaload, 1) := by decide +kernel
theorem dX1_copy_46 : decode cX1_copy 46 = .ok (.iastore, 1) := by decide +kernel
theorem dX1_copy_47 : decode cX1_copy 47 = .ok (.iinc 2 1, 3) := by decide +kernel
theorem dX1_copy_50 : decode cX1_copy 50 = .ok (.goto (-32), 3) := by decide +kernel
theorem dX1_copy_53 : decode cX1_copy 53 = .ok (.return_, 1) := by decide +kernel
theorem dX1_fits_0 : decode cX1_fits 0 = .ok (.iload_n 2, 1) := by decide +kernel
theorem dX1_fits_1 : decode cX1_fits 1 = .ok (.ifCond .lt 16, 3) := by decide +kernel
theorem dX1_fits_4 : decode cX1_fits 4 = .ok (.iload_n 2, 1) := by decide +kernel
theorem dX1_fits_5 : decode cX1_fits 5 = .ok (.aload_n 1, 1) := by decide +kernel
theorem dX1_fits_6 : decode cX1_fits 6 = .ok (.getfield 29, 3) := by decide +kernel
theorem dX1_fits_9 : decode cX1_fits 9 = .ok (.aload_n 0, 1) := by decide +kernel
theorem dX1_fits_10 : decode cX1_fits 10 = .ok (.getfield 18, 3) := by decide +kernel
theorem dX1_fits_13 : decode cX1_fits 13 = .ok (.isub, 1) := by decide +kernel
theorem dX1_fits_14 : decode cX1_fits 14 = .ok (.if_icmp .le 5, 3) := by decide +kernel
theorem dX1_fits_17 : decode cX1_fits 17 = .ok (.iconst 0, 1) := by decide +kernel
theorem dX1_fits_18 : decode cX1_fits 18 = .ok (.ireturn, 1) := by decide +kernel
theorem dX1_fits_19 : decode cX1_fits 19 = .ok (.iconst 0, 1) := by decide +kernel
theorem dX1_fits_20 : decode cX1_fits 20 = .ok (.istore_n 3, 1) := by decide +kernel
theorem dX1_fits_21 : decode cX1_fits 21 = .ok (.iload_n 3, 1) := by decide +kernel
theorem dX1_fits_22 : decode cX1_fits 22 = .ok (.aload_n 0, 1) := by decide +kernel
theorem dX1_fits_23 : decode cX1_fits 23 = .ok (.getfield 18, 3) := by decide +kernel
theorem dX1_fits_26 : decode cX1_fits 26 = .ok (.if_icmp .ge 55, 3) := by decide +kernel
theorem dX1_fits_29 : decode cX1_fits 29 = .ok (.aload_n 0, 1) := by decide +kernel
theorem dX1_fits_30 : decode cX1_fits 30 = .ok (.getfield 9, 3) := by decide +kernel
theorem dX1_fits_33 : decode cX1_fits 33 = .ok (.iload_n 3, 1) := by decide +kernel
theorem dX1_fits_34 : decode cX1_fits 34 = .ok (.iaload, 1) := by decide +kernel
theorem dX1_fits_35 : decode cX1_fits 35 = .ok (.aload_n 1, 1) := by decide +kernel
theorem dX1_fits_36 : decode cX1_fits 36 = .ok (.getfield 25, 3) := by decide +kernel
theorem dX1_fits_39 : decode cX1_fits 39 = .ok (.iload_n 2, 1) := by decide +kernel
theorem dX1_fits_40 : decode cX1_fits 40 = .ok (.iload_n 3, 1) := by decide +kernel
theorem dX1_fits_41 : decode cX1_fits 41 = .ok (.iadd, 1) := by decide +kernel
theorem dX1_fits_42 : decode cX1_fits 42 = .ok (.iaload, 1) := by decide +kernel
theorem dX1_fits_43 : decode cX1_fits 43 = .ok (.if_icmp .eq 5, 3) := by decide +kernel
theorem dX1_fits_46 : decode cX1_fits 46 = .ok (.iconst 0, 1) := by decide +kernel
theorem dX1_fits_47 : decode cX1_fits 47 = .ok (.ireturn, 1) := by decide +kernel
theorem dX1_fits_48 : decode cX1_fits 48 = .ok (.iload_n 3, 1) := by decide +kernel
theorem dX1_fits_49 : decode cX1_fits 49 = .ok (.aload_n 0, 1) := by decide +kernel
theorem dX1_fits_50 : decode cX1_fits 50 = .ok (.getfield 22, 3) := by decide +kernel
theorem dX1_fits_53 : decode cX1_fits 53 = .ok (.if_icmp .eq 22, 3) := by decide +kernel
theorem dX1_fits_56 : decode cX1_fits 56 = .ok (.aload_n 0, 1) := by decide +kernel
theorem dX1_fits_57 : decode cX1_fits 57 = .ok (.getfield 15, 3) := by decide +kernel
theorem dX1_fits_60 : decode cX1_fits 60 = .ok (.iload_n 3, 1) := by decide +kernel
theorem dX1_fits_61 : decode cX1_fits 61 = .ok (.iaload, 1) := by decide +kernel
theorem dX1_fits_62 : decode cX1_fits 62 = .ok (.aload_n 1, 1) := by decide +kernel
theorem dX1_fits_63 : decode cX1_fits 63 = .ok (.getfield 28, 3) := by decide +kernel
theorem dX1_fits_66 : decode cX1_fits 66 = .ok (.iload_n 2, 1) := by decide +kernel
theorem dX1_fits_67 : decode cX1_fits 67 = .ok (.iload_n 3, 1) := by decide +kernel
theorem dX1_fits_68 : decode cX1_fits 68 = .ok (.iadd, 1) := by decide +kernel
theorem dX1_fits_69 : decode cX1_fits 69 = .ok (.iaload, 1) := by decide +kernel
theorem dX1_fits_70 : decode cX1_fits 70 = .ok (.if_icmp .eq 5, 3) := by decide +kernel
theorem dX1_fits_73 : decode cX1_fits 73 = .ok (.iconst 0, 1) := by decide +kernel
theorem dX1_fits_74 : decode cX1_fits 74 = .ok (.ireturn, 1) := by decide +kernel
theorem dX1_fits_75 : decode cX1_fits 75 = .ok (.iinc 3 1, 3) := by decide +kernel
theorem dX1_fits_78 : decode cX1_fits 78 = .ok (.goto (-57), 3) := by decide +kernel
theorem dX1_fits_81 : decode cX1_fits 81 = .ok (.iconst 1, 1) := by decide +kernel
theorem dX1_fits_82 : decode cX1_fits 82 = .ok (.ireturn, 1) := by decide +kernel
theorem dX2_init_0 : decode cX2_init 0 = .ok (.aload_n 0, 1) := by decide +kernel
theorem dX2_init_1 : decode cX2_init 1 = .ok (.invokespecial 3, 3) := by decide +kernel
theorem dX2_init_4 : decode cX2_init 4 = .ok (.aload_n 0, 1) := by decide +kernel
theorem dX2_init_5 : decode cX2_init 5 = .ok (.bipush 6, 2) := by decide +kernel
theorem dX2_init_7 : decode cX2_init 7 = .ok (.anewarray 9, 3) := by decide +kernel
theorem dX2_init_10 : decode cX2_init 10 = .ok (.putfield 11, 3) := by decide +kernel
theorem dX2_init_13 : decode cX2_init 13 = .ok (.iconst 0, 1) := by decide +kernel
theorem dX2_init_14 : decode cX2_init 14 = .ok (.istore_n 1, 1) := by decide +kernel
theorem dX2_init_15 : decode cX2_init 15 = .ok (.iload_n 1, 1) := by decide +kernel
theorem dX2_init_16 : decode cX2_init 16 = .ok (.bipush 6, 2) := by decide +kernel
theorem dX2_init_18 : decode cX2_init 18 = .ok (.if_icmp .ge 22, 3) := by decide +kernel
theorem dX2_init_21 : decode cX2_init 21 = .ok (.aload_n 0, 1) := by decide +kernel
theorem dX2_init_22 : decode cX2_init 22 = .ok (.getfield 11, 3) := by decide +kernel
theorem dX2_init_25 : decode cX2_init 25 = .ok (.iload_n 1, 1) := by decide +kernel
theorem dX2_init_26 : decode cX2_init 26 = .ok (.new 9, 3) := by decide +kernel
theorem dX2_init_29 : decode cX2_init 29 = .ok (.dup, 1) := by decide +kernel
theorem dX2_init_30 : decode cX2_init 30 = .ok (.invokespecial 17, 3) := by decide +kernel
theorem dX2_init_33 : decode cX2_init 33 = .ok (.aastore, 1) := by decide +kernel
theorem dX2_init_34 : decode cX2_init 34 = .ok (.iinc 1 1, 3) := by decide +kernel
theorem dX2_init_37 : decode cX2_init 37 = .ok (.goto (-22), 3) := by decide +kernel
theorem dX2_init_40 : decode cX2_init 40 = .ok (.return_, 1) := by decide +kernel
theorem dX2_keep_0 : decode cX2_keep 0 = .ok (.aload_n 0, 1) := by decide +kernel
theorem dX2_keep_1 : decode cX2_keep 1 = .ok (.getfield 18, 3) := by decide +kernel
theorem dX2_keep_4 : decode cX2_keep 4 = .ok (.bipush 6, 2) := by decide +kernel
theorem dX2_keep_6 : decode cX2_keep 6 = .ok (.if_icmp .ne 44, 3) := by decide +kernel
theorem dX2_keep_9 : decode cX2_keep 9 = .ok (.iconst 1, 1) := by decide +kernel
theorem dX2_keep_10 : decode cX2_keep 10 = .ok (.istore_n 2, 1) := by decide +kernel
theorem dX2_keep_11 : decode cX2_keep 11 = .ok (.iload_n 2, 1) := by decide +kernel
theorem dX2_keep_12 : decode cX2_keep 12 = .ok (.bipush 6, 2) := by decide +kernel
theorem dX2_keep_14 : decode cX2_keep 14 = .ok (.if_icmp .ge 26, 3) := by decide +kernel
theorem dX2_keep_17 : decode cX2_keep 17 = .ok (.aload_n 0, 1) := by decide +kernel
theorem dX2_keep_18 : decode cX2_keep 18 = .ok (.getfield 11, 3) := by decide +kernel
theorem dX2_keep_21 : decode cX2_keep 21 = .ok (.iload_n 2, 1) := by decide +kernel
theorem dX2_keep_22 : decode cX2_keep 22 = .ok (.iconst 1, 1) := by decide +kernel
theorem dX2_keep_23 : decode cX2_keep 23 = .ok (.isub, 1) := by decide +kernel
theorem dX2_keep_24 : decode cX2_keep 24 = .ok (.aaload, 1) := by decide +kernel
theorem dX2_keep_25 : decode cX2_keep 25 = .ok (.aload_n 0, 1) := by decide +kernel
theorem dX2_keep_26 : decode cX2_keep 26 = .ok (.getfield 11, 3) := by decide +kernel
theorem dX2_keep_29 : decode cX2_keep 29 = .ok (.iload_n 2, 1) := by decide +kernel
theorem dX2_keep_30 : decode cX2_keep 30 = .ok (.aaload, 1) := by decide +kernel
theorem dX2_keep_31 : decode cX2_keep 31 = .ok (.invokevirtual 22, 3) := by decide +kernel
theorem dX2_keep_34 : decode cX2_keep 34 = .ok (.iinc 2 1, 3) := by decide +kernel
theorem dX2_keep_37 : decode cX2_keep 37 = .ok (.goto (-26), 3) := by decide +kernel
theorem dX2_keep_40 : decode cX2_keep 40 = .ok (.aload_n 0, 1) := by decide +kernel
theorem dX2_keep_41 : decode cX2_keep 41 = .ok (.dup, 1) := by decide +kernel
theorem dX2_keep_42 : decode cX2_keep 42 = .ok (.getfield 18, 3) := by decide +kernel
theorem dX2_keep_45 : decode cX2_keep 45 = .ok (.iconst 1, 1) := by decide +kernel
theorem dX2_keep_46 : decode cX2_keep 46 = .ok (.isub, 1) := by decide +kernel
theorem dX2_keep_47 : decode cX2_keep 47 = .ok (.putfield 18, 3) := by decide +kernel
theorem dX2_keep_50 : decode cX2_keep 50 = .ok (.aload_n 0, 1) := by decide +kernel
theorem dX2_keep_51 : decode cX2_keep 51 = .ok (.getfield 11, 3) := by decide +kernel
theorem dX2_keep_54 : decode cX2_keep 54 = .ok (.aload_n 0, 1) := by decide +kernel
theorem dX2_keep_55 : decode cX2_keep 55 = .ok (.getfield 18, 3) := by decide +kernel
theorem dX2_keep_58 : decode cX2_keep 58 = .ok (.aaload, 1) := by decide +kernel
theorem dX2_keep_59 : decode cX2_keep 59 = .ok (.aload_n 1, 1) := by decide +kernel
theorem dX2_keep_60 : decode cX2_keep 60 = .ok (.invokevirtual 22, 3) := by decide +kernel
theorem dX2_keep_63 : decode cX2_keep 63 = .ok (.aload_n 0, 1) := by decide +kernel
theorem dX2_keep_64 : decode cX2_keep 64 = .ok (.dup, 1) := by decide +kernel
theorem dX2_keep_65 : decode cX2_keep 65 = .ok (.getfield 18, 3) := by decide +kernel
theorem dX2_keep_68 : decode cX2_keep 68 = .ok (.iconst 1, 1) := by decide +kernel
theorem dX2_keep_69 : decode cX2_keep 69 = .ok (.iadd, 1) := by decide +kernel
theorem dX2_keep_70 : decode cX2_keep 70 = .ok (.putfield 18, 3) := by decide +kernel
theorem dX2_keep_73 : decode cX2_keep 73 = .ok (.return_, 1) := by decide +kernel
theorem dX2_giveBack_0 : decode cX2_giveBack 0 = .ok (.aload_n 0, 1) := by decide +kernel
theorem dX2_giveBack_1 : decode cX2_giveBack 1 = .ok (.getfield 18, 3) := by decide +kernel
theorem dX2_giveBack_4 : decode cX2_giveBack 4 = .ok (.ifCond .le 26, 3) := by decide +kernel
theorem dX2_giveBack_7 : decode cX2_giveBack 7 = .ok (.aload_n 0, 1) := by decide +kernel
theorem dX2_giveBack_8 : decode cX2_giveBack 8 = .ok (.dup, 1) := by decide +kernel
theorem dX2_giveBack_9 : decode cX2_giveBack 9 = .ok (.getfield 18, 3) := by decide +kernel
theorem dX2_giveBack_12 : decode cX2_giveBack 12 = .ok (.iconst 1, 1) := by decide +kernel
theorem dX2_giveBack_13 : decode cX2_giveBack 13 = .ok (.isub, 1) := by decide +kernel
theorem dX2_giveBack_14 : decode cX2_giveBack 14 = .ok (.putfield 18, 3) := by decide +kernel
theorem dX2_giveBack_17 : decode cX2_giveBack 17 = .ok (.aload_n 1, 1) := by decide +kernel
theorem dX2_giveBack_18 : decode cX2_giveBack 18 = .ok (.aload_n 0, 1) := by decide +kernel
theorem dX2_giveBack_19 : decode cX2_giveBack 19 = .ok (.getfield 11, 3) := by decide +kernel
theorem dX2_giveBack_22 : decode cX2_giveBack 22 = .ok (.aload_n 0, 1) := by decide +kernel
theorem dX2_giveBack_23 : decode cX2_giveBack 23 = .ok (.getfield 18, 3) := by decide +kernel
theorem dX2_giveBack_26 : decode cX2_giveBack 26 = .ok (.aaload, 1) := by decide +kernel
theorem dX2_giveBack_27 : decode cX2_giveBack 27 = .ok (.invokevirtual 22, 3) := by decide +kernel
theorem dX2_giveBack_30 : decode cX2_giveBack 30 = .ok (.return_, 1) := by decide +kernel
theorem dX3_init_0 : decode cX3_init 0 = .ok (.aload_n 0, 1) := by decide +kernel
theorem dX3_init_1 : decode cX3_init 1 = .ok (.invokespecial 3, 3) := by decide +kernel
theorem dX3_init_4 : decode cX3_init 4 = .ok (.aload_n 0, 1) := by decide +kernel
theorem dX3_init_5 : decode cX3_init 5 = .ok (.bipush 48, 2) := by decide +kernel
theorem dX3_init_7 : decode cX3_init 7 = .ok (.newarray .int, 2) := by decide +kernel
theorem dX3_init_9 : decode cX3_init 9 = .ok (.putfield 9, 3) := by decide +kernel
theorem dX3_init_12 : decode cX3_init 12 = .ok (.aload_n 0, 1) := by decide +kernel
theorem dX3_init_13 : decode cX3_init 13 = .ok (.bipush 48, 2) := by decide +kernel
theorem dX3_init_15 : decode cX3_init 15 = .ok (.iconst 5, 1) := by decide +kernel
theorem dX3_init_16 : decode cX3_init 16 = .ok (.multianewarray 15 2, 4) := by decide +kernel
theorem dX3_init_20 : decode cX3_init 20 = .ok (.putfield 17, 3) := by decide +kernel
theorem dX3_init_23 : decode cX3_init 23 = .ok (.aload_n 0, 1) := by decide +kernel
theorem dX3_init_24 : decode cX3_init 24 = .ok (.bipush 49, 2) := by decide +kernel
theorem dX3_init_26 : decode cX3_init 26 = .ok (.newarray .int, 2) := by decide +kernel
theorem dX3_init_28 : decode cX3_init 28 = .ok (.putfield 20, 3) := by decide +kernel
theorem dX3_init_31 : decode cX3_init 31 = .ok (.aload_n 0, 1) := by decide +kernel
theorem dX3_init_32 : decode cX3_init 32 = .ok (.bipush 48, 2) := by decide +kernel
theorem dX3_init_34 : decode cX3_init 34 = .ok (.newarray .int, 2) := by decide +kernel
theorem dX3_init_36 : decode cX3_init 36 = .ok (.putfield 23, 3) := by decide +kernel
theorem dX3_init_39 : decode cX3_init 39 = .ok (.aload_n 0, 1) := by decide +kernel
theorem dX3_init_40 : decode cX3_init 40 = .ok (.bipush 49, 2) := by decide +kernel
theorem dX3_init_42 : decode cX3_init 42 = .ok (.newarray .int, 2) := by decide +kernel
theorem dX3_init_44 : decode cX3_init 44 = .ok (.putfield 26, 3) := by decide +kernel
theorem dX3_init_47 : decode cX3_init 47 = .ok (.aload_n 0, 1) := by decide +kernel
theorem dX3_init_48 : decode cX3_init 48 = .ok (.new 29, 3) := by decide +kernel
theorem dX3_init_51 : decode cX3_init 51 = .ok (.dup, 1) := by decide +kernel
theorem dX3_init_52 : decode cX3_init 52 = .ok (.invokespecial 31, 3) := by decide +kernel
theorem dX3_init_55 : decode cX3_init 55 = .ok (.putfield 32, 3) := by decide +kernel
theorem dX3_init_58 : decode cX3_init 58 = .ok (.aload_n 0, 1) := by decide +kernel
theorem dX3_init_59 : decode cX3_init 59 = .ok (.bipush 48, 2) := by decide +kernel
theorem dX3_init_61 : decode cX3_init 61 = .ok (.newarray .int, 2) := by decide +kernel
theorem dX3_init_63 : decode cX3_init 63 = .ok (.putfield 36, 3) := by decide +kernel
theorem dX3_init_66 : decode cX3_init 66 = .ok (.aload_n 0, 1) := by decide +kernel
theorem dX3_init_67 : decode cX3_init 67 = .ok (.bipush 48, 2) := by decide +kernel
theorem dX3_init_69 : decode cX3_init 69 = .ok (.newarray .int, 2) := by decide +kernel
theorem dX3_init_71 : decode cX3_init 71 = .ok (.putfield 39, 3) := by decide +kernel
theorem dX3_init_74 : decode cX3_init 74 = .ok (.aload_n 0, 1) := by decide +kernel
theorem dX3_init_75 : decode cX3_init 75 = .ok (.bipush 48, 2) := by decide +kernel
theorem dX3_init_77 : decode cX3_init 77 = .ok (.newarray .int, 2) := by decide +kernel
theorem dX3_init_79 : decode cX3_init 79 = .ok (.putfield 42, 3) := by decide +kernel
theorem dX3_init_82 : decode cX3_init 82 = .ok (.aload_n 0, 1) := by decide +kernel
theorem dX3_init_83 : decode cX3_init 83 = .ok (.bipush 48, 2) := by decide +kernel
theorem dX3_init_85 : decode cX3_init 85 = .ok (.newarray .int, 2) := by decide +kernel
theorem dX3_init_87 : decode cX3_init 87 = .ok (.putfield 45, 3) := by decide +kernel
theorem dX3_init_90 : decode cX3_init 90 = .ok (.aload_n 0, 1) := by decide +kernel
theorem dX3_init_91 : decode cX3_init 91 = .ok (.sipush 192, 3) := by decide +kernel
theorem dX3_init_94 : decode cX3_init 94 = .ok (.newarray .int, 2) := by decide +kernel
theorem dX3_init_96 : decode cX3_init 96 = .ok (.putfield 48, 3) := by decide +kernel
theorem dX3_init_99 : decode cX3_init 99 = .ok (.aload_n 0, 1) := by decide +kernel
theorem dX3_init_100 : decode cX3_init 100 = .ok (.aload_n 1, 1) := by decide +kernel
theorem dX3_init_101 : decode cX3_init 101 = .ok (.putfield 51, 3) := by decide +kernel
theorem dX3_init_104 : decode cX3_init 104 = .ok (.aload_n 0, 1) := by decide +kernel
theorem dX3_init_105 : decode cX3_init 105 = .ok (.aload_n 2, 1) := by decide +kernel
theorem dX3_init_106 : decode cX3_init 106 = .ok (.putfield 55, 3) := by decide +kernel
theorem dX3_init_109 : decode cX3_init 109 = .ok (.return_, 1) := by decide +kernel
theorem dX3_reckon_0 : decode cX3_reckon 0 = .ok (.aload_n 0, 1) := by decide +kernel
theorem dX3_reckon_1 : decode cX3_reckon 1 = .ok (.aload_n 0, 1) := by decide +kernel
theorem dX3_reckon_2 : decode cX3_reckon 2 = .ok (.getfield 55, 3) := by decide +kernel
theorem dX3_reckon_5 : decode cX3_reckon 5 = .ok (.getfield 59, 3) := by decide +kernel
theorem dX3_reckon_8 : decode cX3_reckon 8 = .ok (.iconst 4, 1) := by decide +kernel
theorem dX3_reckon_9 : decode cX3_reckon 9 = .ok (.if_icmp .ne 7, 3) := by decide +kernel
theorem dX3_reckon_12 : decode cX3_reckon 12 = .ok (.iconst 2, 1) := by decide +kernel
theorem dX3_reckon_13 : decode cX3_reckon 13 = .ok (.goto 20, 3) := by decide +kernel
theorem dX3_reckon_16 : decode cX3_reckon 16 = .ok (.aload_n 0, 1) := by decide +kernel
theorem dX3_reckon_17 : decode cX3_reckon 17 = .ok (.getfield 55, 3) := by decide +kernel
theorem dX3_reckon_20 : decode cX3_reckon 20 = .ok (.getfield 59, 3) := by decide +kernel
theorem dX3_reckon_23 : decode cX3_reckon 23 = .ok (.bipush 8, 2) := by decide +kernel
theorem dX3_reckon_25 : decode cX3_reckon 25 = .ok (.if_icmp .ne 7, 3) := by decide +kernel
theorem dX3_reckon_28 : decode cX3_reckon 28 = .ok (.iconst 3, 1) := by decide +kernel
theorem dX3_reckon_29 : decode cX3_reckon 29 = .ok (.goto 4, 3) := by decide +kernel
theorem dX3_reckon_32 : decode cX3_reckon 32 = .ok (.iconst 4, 1) := by decide +kernel
theorem dX3_reckon_33 : decode cX3_reckon 33 = .ok (.putfield 65, 3) := by decide +kernel
theorem dX3_reckon_36 : decode cX3_reckon 36 = .ok (.aload_n 0, 1) := by decide +kernel
theorem dX3_reckon_37 : decode cX3_reckon 37 = .ok (.aload_n 0, 1) := by decide +kernel
theorem dX3_reckon_38 : decode cX3_reckon 38 = .ok (.getfield 51, 3) := by decide +kernel
theorem dX3_reckon_41 : decode cX3_reckon 41 = .ok (.getfield 68, 3) := by decide +kernel
theorem dX3_reckon_44 : decode cX3_reckon 44 = .ok (.aload_n 0, 1) := by decide +kernel
theorem dX3_reckon_45 : decode cX3_reckon 45 = .ok (.getfield 55, 3) := by decide +kernel
theorem dX3_reckon_48 : decode cX3_reckon 48 = .ok (.getfield 59, 3) := by decide +kernel
theorem dX3_reckon_51 : decode cX3_reckon 51 = .ok (.iadd, 1) := by decide +kernel
theorem dX3_reckon_52 : decode cX3_reckon 52 = .ok (.iconst 1, 1) := by decide +kernel
theorem dX3_reckon_53 : decode cX3_reckon 53 = .ok (.isub, 1) := by decide +kernel
theorem dX3_reckon_54 : decode cX3_reckon 54 = .ok (.aload_n 0, 1) := by decide +kernel
theorem dX3_reckon_55 : decode cX3_reckon 55 = .ok (.getfield 65, 3) := by decide +kernel
theorem dX3_reckon_58 : decode cX3_reckon 58 = .ok (.ishr, 1) := by decide +kernel
theorem dX3_reckon_59 : decode cX3_reckon 59 = .ok (.putfield 73, 3) := by decide +kernel
theorem dX3_reckon_62 : decode cX3_reckon 62 = .ok (.aload_n 0, 1) := by decide +kernel
theorem dX3_reckon_63 : decode cX3_reckon 63 = .ok (.invokevirtual 76, 3) := by decide +kernel
theorem dX3_reckon_66 : decode cX3_reckon 66 = .ok (.aload_n 0, 1) := by decide +kernel
theorem dX3_reckon_67 : decode cX3_reckon 67 = .ok (.invokevirtual 79, 3) := by decide +kernel
theorem dX3_reckon_70 : decode cX3_reckon 70 = .ok (.aload_n 0, 1) := by decide +kernel
theorem dX3_reckon_71 : decode cX3_reckon 71 = .ok (.invokevirtual 82, 3) := by decide +kernel
theorem dX3_reckon_74 : decode cX3_reckon 74 = .ok (.aload_n 0, 1) := by decide +kernel
theorem dX3_reckon_75 : decode cX3_reckon 75 = .ok (.invokevirtual 85, 3) := by decide +kernel
theorem dX3_reckon_78 : decode cX3_reckon 78 = .ok (.return_, 1) := by decide +kernel
theorem dX3_measureReaches_0 : decode cX3_measureReaches 0 = .ok (.aload_n 0, 1) := by decide +kernel
theorem dX3_measureReaches_1 : decode cX3_measureReaches 1 = .ok (.getfield 51, 3) := by decide +kernel
theorem dX3_measureReaches_4 : decode cX3_measureReaches 4 = .ok (.getfield 68, 3) := by decide +kernel
theorem dX3_measureReaches_7 : decode cX3_measureReaches 7 = .ok (.iconst 1, 1) := by decide +kernel
theorem dX3_measureReaches_8 : decode cX3_measureReaches 8 = .ok (.isub, 1) := by decide +kernel
theorem dX3_measureReaches_9 : decode cX3_measureReaches 9 = .ok (.istore_n 1, 1) := by decide +kernel
theorem dX3_measureReaches_10 : decode cX3_measureReaches 10 = .ok (.iload_n 1, 1) := by decide +kernel
theorem dX3_measureReaches_11 : decode cX3_measureReaches 11 = .ok (.ifCond .lt 72, 3) := by decide +kernel
theorem dX3_measureReaches_14 : decode cX3_measureReaches 14 = .ok (.aload_n 0, 1) := by decide +kernel
theorem dX3_measureReaches_15 : decode cX3_measureReaches 15 = .ok (.getfield 51, 3) := by decide +kernel
theorem dX3_measureReaches_18 : decode cX3_measureReaches 18 = .ok (.getfield 88, 3) := by decide +kernel
theorem dX3_measureReaches_21 : decode cX3_measureReaches 21 = .ok (.iload_n 1, 1) := by decide +kernel
theorem dX3_measureReaches_22 : decode cX3_measureReaches 22 = .ok (.iaload, 1) := by decide +kernel
theorem dX3_measureReaches_23 : decode cX3_measureReaches 23 = .ok (.invokestatic 91, 3) := by decide +kernel
theorem dX3_measureReaches_26 : decode cX3_measureReaches 26 = .ok (.ifCond .ne 13, 3) := by decide +kernel
theorem dX3_measureReaches_29 : decode cX3_measureReaches 29 = .ok (.aload_n 0, 1) := by decide +kernel
theorem dX3_measureReaches_30 : decode cX3_measureReaches 30 = .ok (.getfield 9, 3) := by decide +kernel
theorem dX3_measureReaches_33 : decode cX3_measureReaches 33 = .ok (.iload_n 1, 1) := by decide +kernel
theorem dX3_measureReaches_34 : decode cX3_measureReaches 34 = .ok (.iconst 0, 1) := by decide +kernel
theorem dX3_measureReaches_35 : decode cX3_measureReaches 35 = .ok (.iastore, 1) := by decide +kernel
theorem dX3_measureReaches_36 : decode cX3_measureReaches 36 = .ok (.goto 41, 3) := by decide +kernel
theorem dX3_measureReaches_39 : decode cX3_measureReaches 39 = .ok (.aload_n 0, 1) := by decide +kernel
theorem dX3_measureReaches_40 : decode cX3_measureReaches 40 = .ok (.iload_n 1, 1) := by decide +kernel
theorem dX3_measureReaches_41 : decode cX3_measureReaches 41 = .ok (.invokevirtual 95, 3) := by decide +kernel
theorem dX3_measureReaches_44 : decode cX3_measureReaches 44 = .ok (.ifCond .eq 26, 3) := by decide +kernel
theorem dX3_measureReaches_47 : decode cX3_measureReaches 47 = .ok (.aload_n 0, 1) := by decide +kernel
theorem dX3_measureReaches_48 : decode cX3_measureReaches 48 = .ok (.getfield 9, 3) := by decide +kernel
theorem dX3_measureReaches_51 : decode cX3_measureReaches 51 = .ok (.iload_n 1, 1) := by decide +kernel
theorem dX3_measureReaches_52 : decode cX3_measureReaches 52 = .ok (.iconst 4, 1) := by decide +kernel
theorem dX3_measureReaches_53 : decode cX3_measureReaches 53 = .ok (.iconst 1, 1) := by decide +kernel
theorem dX3_measureReaches_54 : decode cX3_measureReaches 54 = .ok (.aload_n 0, 1) := by decide +kernel
theorem dX3_measureReaches_55 : decode cX3_measureReaches 55 = .ok (.getfield 9, 3) := by decide +kernel
theorem dX3_measureReaches_58 : decode cX3_measureReaches 58 = .ok (.iload_n 1, 1) := by decide +kernel
theorem dX3_measureReaches_59 : decode cX3_measureReaches 59 = .ok (.iconst 1, 1) := by decide +kernel
theorem dX3_measureReaches_60 : decode cX3_measureReaches 60 = .ok (.iadd, 1) := by decide +kernel
theorem dX3_measureReaches_61 : decode cX3_measureReaches 61 = .ok (.iaload, 1) := by decide +kernel
theorem dX3_measureReaches_62 : decode cX3_measureReaches 62 = .ok (.iadd, 1) := by decide +kernel
theorem dX3_measureReaches_63 : decode cX3_measureReaches 63 = .ok (.invokestatic 98, 3) := by decide +kernel
theorem dX3_measureReaches_66 : decode cX3_measureReaches 66 = .ok (.iastore, 1) := by decide +kernel
theorem dX3_measureReaches_67 : decode cX3_measureReaches 67 = .ok (.goto 10, 3) := by decide +kernel
theorem dX3_measureReaches_70 : decode cX3_measureReaches 70 = .ok (.aload_n 0, 1) := by decide +kernel
theorem dX3_measureReaches_71 : decode cX3_measureReaches 71 = .ok (.getfield 9, 3) := by decide +kernel
theorem dX3_measureReaches_74 : decode cX3_measureReaches 74 = .ok (.iload_n 1, 1) := by decide +kernel
theorem dX3_measureReaches_75 : decode cX3_measureReaches 75 = .ok (.iconst 1, 1) := by decide +kernel
theorem dX3_measureReaches_76 : decode cX3_measureReaches 76 = .ok (.iastore, 1) := by decide +kernel
theorem dX3_measureReaches_77 : decode cX3_measureReaches 77 = .ok (.iinc 1 (-1), 3) := by decide +kernel
theorem dX3_measureReaches_80 : decode cX3_measureReaches 80 = .ok (.goto (-70), 3) := by decide +kernel
theorem dX3_measureReaches_83 : decode cX3_measureReaches 83 = .ok (.return_, 1) := by decide +kernel
theorem dX3_leadsOn_0 : decode cX3_leadsOn 0 = .ok (.aload_n 0, 1) := by decide +kernel
theorem dX3_leadsOn_1 : decode cX3_leadsOn 1 = .ok (.getfield 51, 3) := by decide +kernel
theorem dX3_leadsOn_4 : decode cX3_leadsOn 4 = .ok (.iload_n 1, 1) := by decide +kernel
theorem dX3_leadsOn_5 : decode cX3_leadsOn 5 = .ok (.iconst 1, 1) := by decide +kernel
theorem dX3_leadsOn_6 : decode cX3_leadsOn 6 = .ok (.iadd, 1) := by decide +kernel
theorem dX3_leadsOn_7 : decode cX3_leadsOn 7 = .ok (.invokevirtual 104, 3) := by decide +kernel
theorem dX3_leadsOn_10 : decode cX3_leadsOn 10 = .ok (.ifCond .eq 53, 3) := by decide +kernel
theorem dX3_leadsOn_13 : decode cX3_leadsOn 13 = .ok (.aload_n 0, 1) := by decide +kernel
theorem dX3_leadsOn_14 : decode cX3_leadsOn 14 = .ok (.iload_n 1, 1) := by decide +kernel
theorem dX3_leadsOn_15 : decode cX3_leadsOn 15 = .ok (.invokevirtual 107, 3) := by decide +kernel
theorem dX3_leadsOn_18 : decode cX3_leadsOn 18 = .ok (.aload_n 0, 1) := by decide +kernel
theorem dX3_leadsOn_19 : decode cX3_leadsOn 19 = .ok (.iload_n 1, 1) := by decide +kernel
theorem dX3_leadsOn_20 : decode cX3_leadsOn 20 = .ok (.iconst 1, 1) := by decide +kernel
theorem dX3_leadsOn_21 : decode cX3_leadsOn 21 = .ok (.iadd, 1) := by decide +kernel
theorem dX3_leadsOn_22 : decode cX3_leadsOn 22 = .ok (.invokevirtual 107, 3) := by decide +kernel
theorem dX3_leadsOn_25 : decode cX3_leadsOn 25 = .ok (.if_icmp .ne 38, 3) := by decide +kernel
theorem dX3_leadsOn_28 : decode cX3_leadsOn 28 = .ok (.aload_n 0, 1) := by decide +kernel
theorem dX3_leadsOn_29 : decode cX3_leadsOn 29 = .ok (.getfield 51, 3) := by decide +kernel
theorem dX3_leadsOn_32 : decode cX3_leadsOn 32 = .ok (.getfield 88, 3) := by decide +kernel
theorem dX3_leadsOn_35 : decode cX3_leadsOn 35 = .ok (.iload_n 1, 1) := by decide +kernel
theorem dX3_leadsOn_36 : decode cX3_leadsOn 36 = .ok (.iconst 1, 1) := by decide +kernel
theorem dX3_leadsOn_37 : decode cX3_leadsOn 37 = .ok (.iadd, 1) := by decide +kernel
theorem dX3_leadsOn_38 : decode cX3_leadsOn 38 = .ok (.iaload, 1) := by decide +kernel
theorem dX3_leadsOn_39 : decode cX3_leadsOn 39 = .ok (.invokestatic 91, 3) := by decide +kernel
theorem dX3_leadsOn_42 : decode cX3_leadsOn 42 = .ok (.ifCond .eq 21, 3) := by decide +kernel
theorem dX3_leadsOn_45 : decode cX3_leadsOn 45 = .ok (.aload_n 0, 1) := by decide +kernel
theorem dX3_leadsOn_46 : decode cX3_leadsOn 46 = .ok (.getfield 51, 3) := by decide +kernel
theorem dX3_leadsOn_49 : decode cX3_leadsOn 49 = .ok (.getfield 111, 3) := by decide +kernel
theorem dX3_leadsOn_52 : decode cX3_leadsOn 52 = .ok (.iload_n 1, 1) := by decide +kernel
theorem dX3_leadsOn_53 : decode cX3_leadsOn 53 = .ok (.iconst 1, 1) := by decide +kernel
theorem dX3_leadsOn_54 : decode cX3_leadsOn 54 = .ok (.iadd, 1) := by decide +kernel
theorem dX3_leadsOn_55 : decode cX3_leadsOn 55 = .ok (.baload, 1) := by decide +kernel
theorem dX3_leadsOn_56 : decode cX3_leadsOn 56 = .ok (.ifCond .ne 7, 3) := by decide +kernel
theorem dX3_leadsOn_59 : decode cX3_leadsOn 59 = .ok (.iconst 1, 1) := by decide +kernel
theorem dX3_leadsOn_60 : decode cX3_leadsOn 60 = .ok (.goto 4, 3) := by decide +kernel
theorem dX3_leadsOn_63 : decode cX3_leadsOn 63 = .ok (.iconst 0, 1) := by decide +kernel
theorem dX3_leadsOn_64 : decode cX3_leadsOn 64 = .ok (.ireturn, 1) := by decide +kernel
theorem dX3_findBest_0 : decode cX3_findBest 0 = .ok (.aload_n 0, 1) := by decide +kernel
theorem dX3_findBest_1 : decode cX3_findBest 1 = .ok (.getfield 20, 3) := by decide +kernel
theorem dX3_findBest_4 : decode cX3_findBest 4 = .ok (.aload_n 0, 1) := by decide +kernel
theorem dX3_findBest_5 : decode cX3_findBest 5 = .ok (.getfield 51, 3) := by decide +kernel
theorem dX3_findBest_8 : decode cX3_findBest 8 = .ok (.getfield 68, 3) := by decide +kernel
theorem dX3_findBest_11 : decode cX3_findBest 11 = .ok (.iconst 0, 1) := by decide +kernel
theorem dX3_findBest_12 : decode cX3_findBest 12 = .ok (.iastore, 1) := by decide +kernel
theorem dX3_findBest_13 : decode cX3_findBest 13 = .ok (.aload_n 0, 1) := by decide +kernel
theorem dX3_findBest_14 : decode cX3_findBest 14 = .ok (.getfield 51, 3) := by decide +kernel
theorem dX3_findBest_17 : decode cX3_findBest 17 = .ok (.getfield 68, 3) := by decide +kernel
theorem dX3_findBest_20 : decode cX3_findBest 20 = .ok (.iconst 1, 1) := by decide +kernel
theorem dX3_findBest_21 : decode cX3_findBest 21 = .ok (.isub, 1) := by decide +kernel
theorem dX3_findBest_22 : decode cX3_findBest 22 = .ok (.istore_n 1, 1) := by decide +kernel
theorem dX3_findBest_23 : decode cX3_findBest 23 = .ok (.iload_n 1, 1) := by decide +kernel
theorem dX3_findBest_24 : decode cX3_findBest 24 = .ok (.ifCond .lt 91, 3) := by decide +kernel
theorem dX3_findBest_27 : decode cX3_findBest 27 = .ok (.iconst 2, 1) := by decide +kernel
theorem dX3_findBest_28 : decode cX3_findBest 28 = .ok (.istore_n 2, 1) := by decide +kernel
theorem dX3_findBest_29 : decode cX3_findBest 29 = .ok (.iload_n 2, 1) := by decide +kernel
theorem dX3_findBest_30 : decode cX3_findBest 30 = .ok (.iconst 4, 1) := by decide +kernel
theorem dX3_findBest_31 : decode cX3_findBest 31 = .ok (.if_icmp .gt 18, 3) := by decide +kernel
theorem dX3_findBest_34 : decode cX3_findBest 34 = .ok (.aload_n 0, 1) := by decide +kernel
theorem dX3_findBest_35 : decode cX3_findBest 35 = .ok (.getfield 17, 3) := by decide +kernel
theorem dX3_findBest_38 : decode cX3_findBest 38 = .ok (.iload_n 1, 1) := by decide +kernel
theorem dX3_findBest_39 : decode cX3_findBest 39 = .ok (.aaload, 1) := by decide +kernel
theorem dX3_findBest_40 : decode cX3_findBest 40 = .ok (.iload_n 2, 1) := by decide +kernel
theorem dX3_findBest_41 : decode cX3_findBest 41 = .ok (.iconst 0, 1) := by decide +kernel
theorem dX3_findBest_42 : decode cX3_findBest 42 = .ok (.iastore, 1) := by decide +kernel
theorem dX3_findBest_43 : decode cX3_findBest 43 = .ok (.iinc 2 1, 3) := by decide +kernel
theorem dX3_findBest_46 : decode cX3_findBest 46 = .ok (.goto (-17), 3) := by decide +kernel
theorem dX3_findBest_49 : decode cX3_findBest 49 = .ok (.aload_n 0, 1) := by decide +kernel
theorem dX3_findBest_50 : decode cX3_findBest 50 = .ok (.getfield 20, 3) := by decide +kernel
theorem dX3_findBest_53 : decode cX3_findBest 53 = .ok (.iload_n 1, 1) := by decide +kernel
theorem dX3_findBest_54 : decode cX3_findBest 54 = .ok (.aload_n 0, 1) := by decide +kernel
theorem dX3_findBest_55 : decode cX3_findBest 55 = .ok (.getfield 51, 3) := by decide +kernel
theorem dX3_findBest_58 : decode cX3_findBest 58 = .ok (.getfield 88, 3) := by decide +kernel
theorem dX3_findBest_61 : decode cX3_findBest 61 = .ok (.iload_n 1, 1) := by decide +kernel
theorem dX3_findBest_62 : decode cX3_findBest 62 = .ok (.iaload, 1) := by decide +kernel
theorem dX3_findBest_63 : decode cX3_findBest 63 = .ok (.invokestatic 115, 3) := by decide +kernel
theorem dX3_findBest_66 : decode cX3_findBest 66 = .ok (.aload_n 0, 1) := by decide +kernel
theorem dX3_findBest_67 : decode cX3_findBest 67 = .ok (.getfield 20, 3) := by decide +kernel
theorem dX3_findBest_70 : decode cX3_findBest 70 = .ok (.iload_n 1, 1) := by decide +kernel
theorem dX3_findBest_71 : decode cX3_findBest 71 = .ok (.iconst 1, 1) := by decide +kernel
theorem dX3_findBest_72 : decode cX3_findBest 72 = .ok (.iadd, 1) := by decide +kernel
theorem dX3_findBest_73 : decode cX3_findBest 73 = .ok (.iaload, 1) := by decide +kernel
theorem dX3_findBest_74 : decode cX3_findBest 74 = .ok (.iadd, 1) := by decide +kernel
theorem dX3_findBest_75 : decode cX3_findBest 75 = .ok (.iastore, 1) := by decide +kernel
theorem dX3_findBest_76 : decode cX3_findBest 76 = .ok (.aload_n 0, 1) := by decide +kernel
theorem dX3_findBest_77 : decode cX3_findBest 77 = .ok (.getfield 23, 3) := by decide +kernel
theorem dX3_findBest_80 : decode cX3_findBest 80 = .ok (.iload_n 1, 1) := by decide +kernel
theorem dX3_findBest_81 : decode cX3_findBest 81 = .ok (.bipush (-4), 2) := by decide +kernel
theorem dX3_findBest_83 : decode cX3_findBest 83 = .ok (.iastore, 1) := by decide +kernel
theorem dX3_findBest_84 : decode cX3_findBest 84 = .ok (.iconst 0, 1) := by decide +kernel
theorem dX3_findBest_85 : decode cX3_findBest 85 = .ok (.istore_n 2, 1) := by decide +kernel
theorem dX3_findBest_86 : decode cX3_findBest 86 = .ok (.iload_n 2, 1) := by decide +kernel
theorem dX3_findBest_87 : decode cX3_findBest 87 = .ok (.aload_n 0, 1) := by decide +kernel
theorem dX3_findBest_88 : decode cX3_findBest 88 = .ok (.getfield 55, 3) := by decide +kernel
theorem dX3_findBest_91 : decode cX3_findBest 91 = .ok (.getfield 118, 3) := by decide +kernel
theorem dX3_findBest_94 : decode cX3_findBest 94 = .ok (.if_icmp .ge 15, 3) := by decide +kernel
theorem dX3_findBest_97 : decode cX3_findBest 97 = .ok (.aload_n 0, 1) := by decide +kernel
theorem dX3_findBest_98 : decode cX3_findBest 98 = .ok (.iload_n 1, 1) := by decide +kernel
theorem dX3_findBest_99 : decode cX3_findBest 99 = .ok (.iload_n 2, 1) := by decide +kernel
theorem dX3_findBest_100 : decode cX3_findBest 100 = .ok (.invokevirtual 121, 3) := by decide +kernel
theorem dX3_findBest_103 : decode cX3_findBest 103 = .ok (.iinc 2 1, 3) := by decide +kernel
theorem dX3_findBest_106 : decode cX3_findBest 106 = .ok (.goto (-20), 3) := by decide +kernel
theorem dX3_findBest_109 : decode cX3_findBest 109 = .ok (.iinc 1 (-1), 3) := by decide +kernel
theorem dX3_findBest_112 : decode cX3_findBest 112 = .ok (.goto (-89), 3) := by decide +kernel
theorem dX3_findBest_115 : decode cX3_findBest 115 = .ok (.return_, 1) := by decide +kernel
theorem dX3_offer_0 : decode cX3_offer 0 = .ok (.aload_n 0, 1) := by decide +kernel
theorem dX3_offer_1 : decode cX3_offer 1 = .ok (.getfield 55, 3) := by decide +kernel
theorem dX3_offer_4 : decode cX3_offer 4 = .ok (.getfield 125, 3) := by decide +kernel
theorem dX3_offer_7 : decode cX3_offer 7 = .ok (.iload_n 2, 1) := by decide +kernel
theorem dX3_offer_8 : decode cX3_offer 8 = .ok (.aaload, 1) := by decide +kernel
theorem dX3_offer_9 : decode cX3_offer 9 = .ok (.astore_n 3, 1) := by decide +kernel
theorem dX3_offer_10 : decode cX3_offer 10 = .ok (.aload_n 0, 1) := by decide +kernel
theorem dX3_offer_11 : decode cX3_offer 11 = .ok (.aload_n 3, 1) := by decide +kernel
theorem dX3_offer_12 : decode cX3_offer 12 = .ok (.iload_n 1, 1) := by decide +kernel
theorem dX3_offer_13 : decode cX3_offer 13 = .ok (.invokevirtual 129, 3) := by decide +kernel
theorem dX3_offer_16 : decode cX3_offer 16 = .ok (.ifCond .ne 4, 3) := by decide +kernel
theorem dX3_offer_19 : decode cX3_offer 19 = .ok (.return_, 1) := by decide +kernel
theorem dX3_offer_20 : decode cX3_offer 20 = .ok (.aload_n 3, 1) := by decide +kernel
theorem dX3_offer_21 : decode cX3_offer 21 = .ok (.getfield 133, 3) := by decide +kernel
theorem dX3_offer_24 : decode cX3_offer 24 = .ok (.invokestatic 136, 3) := by decide +kernel
theorem dX3_offer_27 : decode cX3_offer 27 = .ok (.istore 4, 2) := by decide +kernel
theorem dX3_offer_29 : decode cX3_offer 29 = .ok (.aload_n 0, 1) := by decide +kernel
theorem dX3_offer_30 : decode cX3_offer 30 = .ok (.getfield 17, 3) := by decide +kernel
theorem dX3_offer_33 : decode cX3_offer 33 = .ok (.iload_n 1, 1) := by decide +kernel
theorem dX3_offer_34 : decode cX3_offer 34 = .ok (.aaload, 1) := by decide +kernel
theorem dX3_offer_35 : decode cX3_offer 35 = .ok (.aload_n 3, 1) := by decide +kernel
theorem dX3_offer_36 : decode cX3_offer 36 = .ok (.getfield 139, 3) := by decide +kernel
theorem dX3_offer_39 : decode cX3_offer 39 = .ok (.iaload, 1) := by decide +kernel
theorem dX3_offer_40 : decode cX3_offer 40 = .ok (.istore 5, 2) := by decide +kernel
theorem dX3_offer_42 : decode cX3_offer 42 = .ok (.iload 5, 2) := by decide +kernel
theorem dX3_offer_44 : decode cX3_offer 44 = .ok (.ifCond .eq 10, 3) := by decide +kernel
theorem dX3_offer_47 : decode cX3_offer 47 = .ok (.iload 4, 2) := by decide +kernel
theorem dX3_offer_49 : decode cX3_offer 49 = .ok (.iload 5, 2) := by decide +kernel
theorem dX3_offer_51 : decode cX3_offer 51 = .ok (.if_icmp .ge 16, 3) := by decide +kernel
theorem dX3_offer_54 : decode cX3_offer 54 = .ok (.aload_n 0, 1) := by decide +kernel
theorem dX3_offer_55 : decode cX3_offer 55 = .ok (.getfield 17, 3) := by decide +kernel
theorem dX3_offer_58 : decode cX3_offer 58 = .ok (.iload_n 1, 1) := by decide +kernel
theorem dX3_offer_59 : decode cX3_offer 59 = .ok (.aaload, 1) := by decide +kernel
theorem dX3_offer_60 : decode cX3_offer 60 = .ok (.aload_n 3, 1) := by decide +kernel
theorem dX3_offer_61 : decode cX3_offer 61 = .ok (.getfield 139, 3) := by decide +kernel
theorem dX3_offer_64 : decode cX3_offer 64 = .ok (.iload 4, 2) := by decide +kernel
theorem dX3_offer_66 : decode cX3_offer 66 = .ok (.iastore, 1) := by decide +kernel
theorem dX3_offer_67 : decode cX3_offer 67 = .ok (.iload 4, 2) := by decide +kernel
theorem dX3_offer_69 : decode cX3_offer 69 = .ok (.aload_n 0, 1) := by decide +kernel
theorem dX3_offer_70 : decode cX3_offer 70 = .ok (.getfield 20, 3) := by decide +kernel
theorem dX3_offer_73 : decode cX3_offer 73 = .ok (.iload_n 1, 1) := by decide +kernel
theorem dX3_offer_74 : decode cX3_offer 74 = .ok (.aload_n 3, 1) := by decide +kernel
theorem dX3_offer_75 : decode cX3_offer 75 = .ok (.getfield 139, 3) := by decide +kernel
theorem dX3_offer_78 : decode cX3_offer 78 = .ok (.iadd, 1) := by decide +kernel
theorem dX3_offer_79 : decode cX3_offer 79 = .ok (.iaload, 1) := by decide +kernel
theorem dX3_offer_80 : decode cX3_offer 80 = .ok (.iadd, 1) := by decide +kernel
theorem dX3_offer_81 : decode cX3_offer 81 = .ok (.istore 6, 2) := by decide +kernel
theorem dX3_offer_83 : decode cX3_offer 83 = .ok (.iload 6, 2) := by decide +kernel
theorem dX3_offer_85 : decode cX3_offer 85 = .ok (.aload_n 0, 1) := by decide +kernel
theorem dX3_offer_86 : decode cX3_offer 86 = .ok (.getfield 20, 3) := by decide +kernel
theorem dX3_offer_89 : decode cX3_offer 89 = .ok (.iload_n 1, 1) := by decide +kernel
theorem dX3_offer_90 : decode cX3_offer 90 = .ok (.iaload, 1) := by decide +kernel
theorem dX3_offer_91 : decode cX3_offer 91 = .ok (.if_icmp .ge 18, 3) := by decide +kernel
theorem dX3_offer_94 : decode cX3_offer 94 = .ok (.aload_n 0, 1) := by decide +kernel
theorem dX3_offer_95 : decode cX3_offer 95 = .ok (.getfield 20, 3) := by decide +kernel
theorem dX3_offer_98 : decode cX3_offer 98 = .ok (.iload_n 1, 1) := by decide +kernel
theorem dX3_offer_99 : decode cX3_offer 99 = .ok (.iload 6, 2) := by decide +kernel
theorem dX3_offer_101 : decode cX3_offer 101 = .ok (.iastore, 1) := by decide +kernel
theorem dX3_offer_102 : decode cX3_offer 102 = .ok (.aload_n 0, 1) := by decide +kernel
theorem dX3_offer_103 : decode cX3_offer 103 = .ok (.getfield 23, 3) := by decide +kernel
theorem dX3_offer_106 : decode cX3_offer 106 = .ok (.iload_n 1, 1) := by decide +kernel
theorem dX3_offer_107 : decode cX3_offer 107 = .ok (.iload_n 2, 1) := by decide +kernel
theorem dX3_offer_108 : decode cX3_offer 108 = .ok (.iastore, 1) := by decide +kernel
theorem dX3_offer_109 : decode cX3_offer 109 = .ok (.return_, 1) := by decide +kernel
theorem dX3_placeAll_0 : decode cX3_placeAll 0 = .ok (.bipush (-4), 2) := by decide +kernel
theorem dX3_placeAll_2 : decode cX3_placeAll 2 = .ok (.istore_n 1, 1) := by decide +kernel
theorem dX3_placeAll_3 : decode cX3_placeAll 3 = .ok (.iconst 0, 1) := by decide +kernel
theorem dX3_placeAll_4 : decode cX3_placeAll 4 = .ok (.istore_n 2, 1) := by decide +kernel
theorem dX3_placeAll_5 : decode cX3_placeAll 5 = .ok (.iconst 0, 1) := by decide +kernel
theorem dX3_placeAll_6 : decode cX3_placeAll 6 = .ok (.istore_n 3, 1) := by decide +kernel
theorem dX3_placeAll_7 : decode cX3_placeAll 7 = .ok (.aload_n 0, 1) := by decide +kernel
theorem dX3_placeAll_8 : decode cX3_placeAll 8 = .ok (.iconst 0, 1) := by decide +kernel
theorem dX3_placeAll_9 : decode cX3_placeAll 9 = .ok (.putfield 142, 3) := by decide +kernel
theorem dX3_placeAll_12 : decode cX3_placeAll 12 = .ok (.iconst 0, 1) := by decide +kernel
theorem dX3_placeAll_13 : decode cX3_placeAll 13 = .ok (.istore 4, 2) := by decide +kernel
theorem dX3_placeAll_15 : decode cX3_placeAll 15 = .ok (.iload 4, 2) := by decide +kernel
theorem dX3_placeAll_17 : decode cX3_placeAll 17 = .ok (.aload_n 0, 1) := by decide +kernel
theorem dX3_placeAll_18 : decode cX3_placeAll 18 = .ok (.getfield 51, 3) := by decide +kernel
theorem dX3_placeAll_21 : decode cX3_placeAll 21 = .ok (.getfield 68, 3) := by decide +kernel
theorem dX3_placeAll_24 : decode cX3_placeAll 24 = .ok (.if_icmp .ge 176, 3) := by decide +kernel
theorem dX3_placeAll_27 : decode cX3_placeAll 27 = .ok (.iload_n 3, 1) := by decide +kernel
theorem dX3_placeAll_28 : decode cX3_placeAll 28 = .ok (.ifCond .ne 7, 3) := by decide +kernel
theorem dX3_placeAll_31 : decode cX3_placeAll 31 = .ok (.iconst 1, 1) := by decide +kernel
theorem dX3_placeAll_32 : decode cX3_placeAll 32 = .ok (.goto 4, 3) := by decide +kernel
theorem dX3_placeAll_35 : decode cX3_placeAll 35 = .ok (.iconst 0, 1) := by decide +kernel
theorem dX3_placeAll_36 : decode cX3_placeAll 36 = .ok (.istore 5, 2) := by decide +kernel
theorem dX3_placeAll_38 : decode cX3_placeAll 38 = .ok (.aload_n 0, 1) := by decide +kernel
theorem dX3_placeAll_39 : decode cX3_placeAll 39 = .ok (.getfield 42, 3) := by decide +kernel
theorem dX3_placeAll_42 : decode cX3_placeAll 42 = .ok (.iload 4, 2) := by decide +kernel
theorem dX3_placeAll_44 : decode cX3_placeAll 44 = .ok (.iload 5, 2) := by decide +kernel
theorem dX3_placeAll_46 : decode cX3_placeAll 46 = .ok (.ifCond .eq 10, 3) := by decide +kernel
theorem dX3_placeAll_49 : decode cX3_placeAll 49 = .ok (.aload_n 0, 1) := by decide +kernel
theorem dX3_placeAll_50 : decode cX3_placeAll 50 = .ok (.getfield 142, 3) := by decide +kernel
theorem dX3_placeAll_53 : decode cX3_placeAll 53 = .ok (.goto 5, 3) := by decide +kernel
theorem dX3_placeAll_56 : decode cX3_placeAll 56 = .ok (.bipush (-4), 2) := by decide +kernel
theorem dX3_placeAll_58 : decode cX3_placeAll 58 = .ok (.iastore, 1) := by decide +kernel
theorem dX3_placeAll_59 : decode cX3_placeAll 59 = .ok (.iload 5, 2) := by decide +kernel
theorem dX3_placeAll_61 : decode cX3_placeAll 61 = .ok (.ifCond .eq 91, 3) := by decide +kernel
theorem dX3_placeAll_64 : decode cX3_placeAll 64 = .ok (.aload_n 0, 1) := by decide +kernel
theorem dX3_placeAll_65 : decode cX3_placeAll 65 = .ok (.getfield 23, 3) := by decide +kernel
theorem dX3_placeAll_68 : decode cX3_placeAll 68 = .ok (.iload 4, 2) := by decide +kernel
theorem dX3_placeAll_70 : decode cX3_placeAll 70 = .ok (.iaload, 1) := by decide +kernel
theorem dX3_placeAll_71 : decode cX3_placeAll 71 = .ok (.istore_n 1, 1) := by decide +kernel
theorem dX3_placeAll_72 : decode cX3_placeAll 72 = .ok (.iconst 0, 1) := by decide +kernel
theorem dX3_placeAll_73 : decode cX3_placeAll 73 = .ok (.istore_n 2, 1) := by decide +kernel
theorem dX3_placeAll_74 : decode cX3_placeAll 74 = .ok (.iload_n 1, 1) := by decide +kernel
theorem dX3_placeAll_75 : decode cX3_placeAll 75 = .ok (.ifCond .ge 7, 3) := by decide +kernel
theorem dX3_placeAll_78 : decode cX3_placeAll 78 = .ok (.iconst 1, 1) := by decide +kernel
theorem dX3_placeAll_79 : decode cX3_placeAll 79 = .ok (.goto 4, 3) := by decide +kernel
theorem dX3_placeAll_82 : decode cX3_placeAll 82 = .ok (.iconst 0, 1) := by decide +kernel
theorem dX3_placeAll_83 : decode cX3_placeAll 83 = .ok (.istore 6, 2) := by decide +kernel
theorem dX3_placeAll_85 : decode cX3_placeAll 85 = .ok (.iload 6, 2) := by decide +kernel
theorem dX3_placeAll_87 : decode cX3_placeAll 87 = .ok (.ifCond .eq 7, 3) := by decide +kernel
theorem dX3_placeAll_90 : decode cX3_placeAll 90 = .ok (.iconst 1, 1) := by decide +kernel
theorem dX3_placeAll_91 : decode cX3_placeAll 91 = .ok (.goto 15, 3) := by decide +kernel
theorem dX3_placeAll_94 : decode cX3_placeAll 94 = .ok (.aload_n 0, 1) := by decide +kernel
theorem dX3_placeAll_95 : decode cX3_placeAll 95 = .ok (.getfield 55, 3) := by decide +kernel
theorem dX3_placeAll_98 : decode cX3_placeAll 98 = .ok (.getfield 125, 3) := by decide +kernel
theorem dX3_placeAll_101 : decode cX3_placeAll 101 = .ok (.iload_n 1, 1) := by decide +kernel
theorem dX3_placeAll_102 : decode cX3_placeAll 102 = .ok (.aaload, 1) := by decide +kernel
theorem dX3_placeAll_103 : decode cX3_placeAll 103 = .ok (.getfield 139, 3) := by decide +kernel
theorem dX3_placeAll_106 : decode cX3_placeAll 106 = .ok (.istore_n 3, 1) := by decide +kernel
theorem dX3_placeAll_107 : decode cX3_placeAll 107 = .ok (.aload_n 0, 1) := by decide +kernel
theorem dX3_placeAll_108 : decode cX3_placeAll 108 = .ok (.dup, 1) := by decide +kernel
theorem dX3_placeAll_109 : decode cX3_placeAll 109 = .ok (.getfield 142, 3) := by decide +kernel
theorem dX3_placeAll_112 : decode cX3_placeAll 112 = .ok (.iload 6, 2) := by decide +kernel
theorem dX3_placeAll_114 : decode cX3_placeAll 114 = .ok (.ifCond .eq 19, 3) := by decide +kernel
theorem dX3_placeAll_117 : decode cX3_placeAll 117 = .ok (.aload_n 0, 1) := by decide +kernel
theorem dX3_placeAll_118 : decode cX3_placeAll 118 = .ok (.getfield 51, 3) := by decide +kernel
theorem dX3_placeAll_121 : decode cX3_placeAll 121 = .ok (.getfield 88, 3) := by decide +kernel
theorem dX3_placeAll_124 : decode cX3_placeAll 124 = .ok (.iload 4, 2) := by decide +kernel
theorem dX3_placeAll_126 : decode cX3_placeAll 126 = .ok (.iaload, 1) := by decide +kernel
theorem dX3_placeAll_127 : decode cX3_placeAll 127 = .ok (.invokestatic 115, 3) := by decide +kernel
theorem dX3_placeAll_130 : decode cX3_placeAll 130 = .ok (.goto 18, 3) := by decide +kernel
theorem dX3_placeAll_133 : decode cX3_placeAll 133 = .ok (.aload_n 0, 1) := by decide +kernel
theorem dX3_placeAll_134 : decode cX3_placeAll 134 = .ok (.getfield 55, 3) := by decide +kernel
theorem dX3_placeAll_137 : decode cX3_placeAll 137 = .ok (.getfield 125, 3) := by decide +kernel
theorem dX3_placeAll_140 : decode cX3_placeAll 140 = .ok (.iload_n 1, 1) := by decide +kernel
theorem dX3_placeAll_141 : decode cX3_placeAll 141 = .ok (.aaload, 1) := by decide +kernel
theorem dX3_placeAll_142 : decode cX3_placeAll 142 = .ok (.getfield 133, 3) := by decide +kernel
theorem dX3_placeAll_145 : decode cX3_placeAll 145 = .ok (.invokestatic 136, 3) := by decide +kernel
theorem dX3_placeAll_148 : decode cX3_placeAll 148 = .ok (.iadd, 1) := by decide +kernel
theorem dX3_placeAll_149 : decode cX3_placeAll 149 = .ok (.putfield 142, 3) := by decide +kernel
theorem dX3_placeAll_152 : decode cX3_placeAll 152 = .ok (.aload_n 0, 1) := by decide +kernel
theorem dX3_placeAll_153 : decode cX3_placeAll 153 = .ok (.getfield 36, 3) := by decide +kernel
theorem dX3_placeAll_156 : decode cX3_placeAll 156 = .ok (.iload 4, 2) := by decide +kernel
theorem dX3_placeAll_158 : decode cX3_placeAll 158 = .ok (.iload_n 1, 1) := by decide +kernel
theorem dX3_placeAll_159 : decode cX3_placeAll 159 = .ok (.iastore, 1) := by decide +kernel
theorem dX3_placeAll_160 : decode cX3_placeAll 160 = .ok (.aload_n 0, 1) := by decide +kernel
theorem dX3_placeAll_161 : decode cX3_placeAll 161 = .ok (.getfield 39, 3) := by decide +kernel
theorem dX3_placeAll_164 : decode cX3_placeAll 164 = .ok (.iload 4, 2) := by decide +kernel
theorem dX3_placeAll_166 : decode cX3_placeAll 166 = .ok (.iload_n 1, 1) := by decide +kernel
theorem dX3_placeAll_167 : decode cX3_placeAll 167 = .ok (.ifCond .ge 8, 3) := by decide +kernel
theorem dX3_placeAll_170 : decode cX3_placeAll 170 = .ok (.bipush (-4), 2) := by decide +kernel
theorem dX3_placeAll_172 : decode cX3_placeAll 172 = .ok (.goto 4, 3) := by decide +kernel
theorem dX3_placeAll_175 : decode cX3_placeAll 175 = .ok (.iload_n 2, 1) := by decide +kernel
theorem dX3_placeAll_176 : decode cX3_placeAll 176 = .ok (.iastore, 1) := by decide +kernel
theorem dX3_placeAll_177 : decode cX3_placeAll 177 = .ok (.aload_n 0, 1) := by decide +kernel
theorem dX3_placeAll_178 : decode cX3_placeAll 178 = .ok (.getfield 45, 3) := by decide +kernel
theorem dX3_placeAll_181 : decode cX3_placeAll 181 = .ok (.iload 4, 2) := by decide +kernel
theorem dX3_placeAll_183 : decode cX3_placeAll 183 = .ok (.aload_n 0, 1) := by decide +kernel
theorem dX3_placeAll_184 : decode cX3_placeAll 184 = .ok (.getfield 142, 3) := by decide +kernel
theorem dX3_placeAll_187 : decode cX3_placeAll 187 = .ok (.iastore, 1) := by decide +kernel
theorem dX3_placeAll_188 : decode cX3_placeAll 188 = .ok (.iinc 2 1, 3) := by decide +kernel
theorem dX3_placeAll_191 : decode cX3_placeAll 191 = .ok (.iinc 3 (-1), 3) := by decide +kernel
theorem dX3_placeAll_194 : decode cX3_placeAll 194 = .ok (.iinc 4 1, 3) := by decide +kernel
theorem dX3_placeAll_197 : decode cX3_placeAll 197 = .ok (.goto (-182), 3) := by decide +kernel
theorem dX3_placeAll_200 : decode cX3_placeAll 200 = .ok (.return_, 1) := by decide +kernel
theorem dX3_layNibbles_0 : decode cX3_layNibbles 0 = .ok (.iconst 0, 1) := by decide +kernel
theorem dX3_layNibbles_1 : decode cX3_layNibbles 1 = .ok (.istore_n 1, 1) := by decide +kernel
theorem dX3_layNibbles_2 : decode cX3_layNibbles 2 = .ok (.iload_n 1, 1) := by decide +kernel
theorem dX3_layNibbles_3 : decode cX3_layNibbles 3 = .ok (.aload_n 0, 1) := by decide +kernel
theorem dX3_layNibbles_4 : decode cX3_layNibbles 4 = .ok (.getfield 51, 3) := by decide +kernel
theorem dX3_layNibbles_7 : decode cX3_layNibbles 7 = .ok (.getfield 68, 3) := by decide +kernel
theorem dX3_layNibbles_10 : decode cX3_layNibbles 10 = .ok (.if_icmp .ge 49, 3) := by decide +kernel
theorem dX3_layNibbles_13 : decode cX3_layNibbles 13 = .ok (.aload_n 0, 1) := by decide +kernel
theorem dX3_layNibbles_14 : decode cX3_layNibbles 14 = .ok (.getfield 42, 3) := by decide +kernel
theorem dX3_layNibbles_17 : decode cX3_layNibbles 17 = .ok (.iload_n 1, 1) := by decide +kernel
theorem dX3_layNibbles_18 : decode cX3_layNibbles 18 = .ok (.iaload, 1) := by decide +kernel
theorem dX3_layNibbles_19 : decode cX3_layNibbles 19 = .ok (.ifCond .lt 20, 3) := by decide +kernel
theorem dX3_layNibbles_22 : decode cX3_layNibbles 22 = .ok (.aload_n 0, 1) := by decide +kernel
theorem dX3_layNibbles_23 : decode cX3_layNibbles 23 = .ok (.getfield 36, 3) := by decide +kernel
theorem dX3_layNibbles_26 : decode cX3_layNibbles 26 = .ok (.iload_n 1, 1) := by decide +kernel
theorem dX3_layNibbles_27 : decode cX3_layNibbles 27 = .ok (.iaload, 1) := by decide +kernel
theorem dX3_layNibbles_28 : decode cX3_layNibbles 28 = .ok (.ifCond .lt 11, 3) := by decide +kernel
theorem dX3_layNibbles_31 : decode cX3_layNibbles 31 = .ok (.aload_n 0, 1) := by decide +kernel
theorem dX3_layNibbles_32 : decode cX3_layNibbles 32 = .ok (.iload_n 1, 1) := by decide +kernel
theorem dX3_layNibbles_33 : decode cX3_layNibbles 33 = .ok (.invokevirtual 143, 3) := by decide +kernel
theorem dX3_layNibbles_36 : decode cX3_layNibbles 36 = .ok (.goto 17, 3) := by decide +kernel
theorem dX3_layNibbles_39 : decode cX3_layNibbles 39 = .ok (.aload_n 0, 1) := by decide +kernel
theorem dX3_layNibbles_40 : decode cX3_layNibbles 40 = .ok (.getfield 42, 3) := by decide +kernel
theorem dX3_layNibbles_43 : decode cX3_layNibbles 43 = .ok (.iload_n 1, 1) := by decide +kernel
theorem dX3_layNibbles_44 : decode cX3_layNibbles 44 = .ok (.iaload, 1) := by decide +kernel
theorem dX3_layNibbles_45 : decode cX3_layNibbles 45 = .ok (.ifCond .lt 8, 3) := by decide +kernel
theorem dX3_layNibbles_48 : decode cX3_layNibbles 48 = .ok (.aload_n 0, 1) := by decide +kernel
theorem dX3_layNibbles_49 : decode cX3_layNibbles 49 = .ok (.iload_n 1, 1) := by decide +kernel
theorem dX3_layNibbles_50 : decode cX3_layNibbles 50 = .ok (.invokevirtual 147, 3) := by decide +kernel
theorem dX3_layNibbles_53 : decode cX3_layNibbles 53 = .ok (.iinc 1 1, 3) := by decide +kernel
theorem dX3_layNibbles_56 : decode cX3_layNibbles 56 = .ok (.goto (-54), 3) := by decide +kernel
theorem dX3_layNibbles_59 : decode cX3_layNibbles 59 = .ok (.return_, 1) := by decide +kernel
theorem dX3_layReference_0 : decode cX3_layReference 0 = .ok (.aload_n 0, 1) := by decide +kernel
theorem dX3_layReference_1 : decode cX3_layReference 1 = .ok (.getfield 42, 3) := by decide +kernel
theorem dX3_layReference_4 : decode cX3_layReference 4 = .ok (.iload_n 1, 1) := by decide +kernel
theorem dX3_layReference_5 : decode cX3_layReference 5 = .ok (.iaload, 1) := by decide +kernel
theorem dX3_layReference_6 : decode cX3_layReference 6 = .ok (.istore_n 2, 1) := by decide +kernel
theorem dX3_layReference_7 : decode cX3_layReference 7 = .ok (.aload_n 0, 1) := by decide +kernel
theorem dX3_layReference_8 : decode cX3_layReference 8 = .ok (.getfield 55, 3) := by decide +kernel
theorem dX3_layReference_11 : decode cX3_layReference 11 = .ok (.getfield 125, 3) := by decide +kernel
theorem dX3_layReference_14 : decode cX3_layReference 14 = .ok (.aload_n 0, 1) := by decide +kernel
theorem dX3_layReference_15 : decode cX3_layReference 15 = .ok (.getfield 36, 3) := by decide +kernel
theorem dX3_layReference_18 : decode cX3_layReference 18 = .ok (.iload_n 1, 1) := by decide +kernel
theorem dX3_layReference_19 : decode cX3_layReference 19 = .ok (.iaload, 1) := by decide +kernel
theorem dX3_layReference_20 : decode cX3_layReference 20 = .ok (.aaload, 1) := by decide +kernel
theorem dX3_layReference_21 : decode cX3_layReference 21 = .ok (.getfield 133, 3) := by decide +kernel
theorem dX3_layReference_24 : decode cX3_layReference 24 = .ok (.istore_n 3, 1) := by decide +kernel
theorem dX3_layReference_25 : decode cX3_layReference 25 = .ok (.aload_n 0, 1) := by decide +kernel
theorem dX3_layReference_26 : decode cX3_layReference 26 = .ok (.getfield 48, 3) := by decide +kernel
theorem dX3_layReference_29 : decode cX3_layReference 29 = .ok (.iload_n 2, 1) := by decide +kernel
theorem dX3_layReference_30 : decode cX3_layReference 30 = .ok (.bipush 15, 2) := by decide +kernel
theorem dX3_layReference_32 : decode cX3_layReference 32 = .ok (.iastore, 1) := by decide +kernel
theorem dX3_layReference_33 : decode cX3_layReference 33 = .ok (.aload_n 0, 1) := by decide +kernel
theorem dX3_layReference_34 : decode cX3_layReference 34 = .ok (.getfield 48, 3) := by decide +kernel
theorem dX3_layReference_37 : decode cX3_layReference 37 = .ok (.iload_n 2, 1) := by decide +kernel
theorem dX3_layReference_38 : decode cX3_layReference 38 = .ok (.iconst 1, 1) := by decide +kernel
theorem dX3_layReference_39 : decode cX3_layReference 39 = .ok (.iadd, 1) := by decide +kernel
theorem dX3_layReference_40 : decode cX3_layReference 40 = .ok (.aload_n 0, 1) := by decide +kernel
theorem dX3_layReference_41 : decode cX3_layReference 41 = .ok (.getfield 36, 3) := by decide +kernel
theorem dX3_layReference_44 : decode cX3_layReference 44 = .ok (.iload_n 1, 1) := by decide +kernel
theorem dX3_layReference_45 : decode cX3_layReference 45 = .ok (.iaload, 1) := by decide +kernel
theorem dX3_layReference_46 : decode cX3_layReference 46 = .ok (.iastore, 1) := by decide +kernel
theorem dX3_layReference_47 : decode cX3_layReference 47 = .ok (.iload_n 3, 1) := by decide +kernel
theorem dX3_layReference_48 : decode cX3_layReference 48 = .ok (.ifCond .lt 22, 3) := by decide +kernel
theorem dX3_layReference_51 : decode cX3_layReference 51 = .ok (.aload_n 0, 1) := by decide +kernel
theorem dX3_layReference_52 : decode cX3_layReference 52 = .ok (.getfield 48, 3) := by decide +kernel
theorem dX3_layReference_55 : decode cX3_layReference 55 = .ok (.iload_n 2, 1) := by decide +kernel
theorem dX3_layReference_56 : decode cX3_layReference 56 = .ok (.iconst 2, 1) := by decide +kernel
theorem dX3_layReference_57 : decode cX3_layReference 57 = .ok (.iadd, 1) := by decide +kernel
theorem dX3_layReference_58 : decode cX3_layReference 58 = .ok (.aload_n 0, 1) := by decide +kernel
theorem dX3_layReference_59 : decode cX3_layReference 59 = .ok (.getfield 51, 3) := by decide +kernel
theorem dX3_layReference_62 : decode cX3_layReference 62 = .ok (.getfield 150, 3) := by decide +kernel
theorem dX3_layReference_65 : decode cX3_layReference 65 = .ok (.iload_n 1, 1) := by decide +kernel
theorem dX3_layReference_66 : decode cX3_layReference 66 = .ok (.iload_n 3, 1) := by decide +kernel
theorem dX3_layReference_67 : decode cX3_layReference 67 = .ok (.iadd, 1) := by decide +kernel
theorem dX3_layReference_68 : decode cX3_layReference 68 = .ok (.iaload, 1) := by decide +kernel
theorem dX3_layReference_69 : decode cX3_layReference 69 = .ok (.iastore, 1) := by decide +kernel
theorem dX3_layReference_70 : decode cX3_layReference 70 = .ok (.return_, 1) := by decide +kernel
theorem dX3_layAlone_0 : decode cX3_layAlone 0 = .ok (.aload_n 0, 1) := by decide +kernel
theorem dX3_layAlone_1 : decode cX3_layAlone 1 = .ok (.getfield 42, 3) := by decide +kernel
theorem dX3_layAlone_4 : decode cX3_layAlone 4 = .ok (.iload_n 1, 1) := by decide +kernel
theorem dX3_layAlone_5 : decode cX3_layAlone 5 = .ok (.iaload, 1) := by decide +kernel
theorem dX3_layAlone_6 : decode cX3_layAlone 6 = .ok (.istore_n 2, 1) := by decide +kernel
theorem dX3_layAlone_7 : decode cX3_layAlone 7 = .ok (.aload_n 0, 1) := by decide +kernel
theorem dX3_layAlone_8 : decode cX3_layAlone 8 = .ok (.getfield 51, 3) := by decide +kernel
theorem dX3_layAlone_11 : decode cX3_layAlone 11 = .ok (.getfield 88, 3) := by decide +kernel
theorem dX3_layAlone_14 : decode cX3_layAlone 14 = .ok (.iload_n 1, 1) := by decide +kernel
theorem dX3_layAlone_15 : decode cX3_layAlone 15 = .ok (.iaload, 1) := by decide +kernel
theorem dX3_layAlone_16 : decode cX3_layAlone 16 = .ok (.istore_n 3, 1) := by decide +kernel
theorem dX3_layAlone_17 : decode cX3_layAlone 17 = .ok (.aload_n 0, 1) := by decide +kernel
theorem dX3_layAlone_18 : decode cX3_layAlone 18 = .ok (.getfield 48, 3) := by decide +kernel
theorem dX3_layAlone_21 : decode cX3_layAlone 21 = .ok (.iload_n 2, 1) := by decide +kernel
theorem dX3_layAlone_22 : decode cX3_layAlone 22 = .ok (.iload_n 3, 1) := by decide +kernel
theorem dX3_layAlone_23 : decode cX3_layAlone 23 = .ok (.iastore, 1) := by decide +kernel
theorem dX3_layAlone_24 : decode cX3_layAlone 24 = .ok (.iload_n 3, 1) := by decide +kernel
theorem dX3_layAlone_25 : decode cX3_layAlone 25 = .ok (.invokestatic 91, 3) := by decide +kernel
theorem dX3_layAlone_28 : decode cX3_layAlone 28 = .ok (.ifCond .eq 23, 3) := by decide +kernel
theorem dX3_layAlone_31 : decode cX3_layAlone 31 = .ok (.aload_n 0, 1) := by decide +kernel
theorem dX3_layAlone_32 : decode cX3_layAlone 32 = .ok (.getfield 48, 3) := by decide +kernel
theorem dX3_layAlone_35 : decode cX3_layAlone 35 = .ok (.iload_n 2, 1) := by decide +kernel
theorem dX3_layAlone_36 : decode cX3_layAlone 36 = .ok (.iconst 1, 1) := by decide +kernel
theorem dX3_layAlone_37 : decode cX3_layAlone 37 = .ok (.iadd, 1) := by decide +kernel
theorem dX3_layAlone_38 : decode cX3_layAlone 38 = .ok (.aload_n 0, 1) := by decide +kernel
theorem dX3_layAlone_39 : decode cX3_layAlone 39 = .ok (.getfield 51, 3) := by decide +kernel
theorem dX3_layAlone_42 : decode cX3_layAlone 42 = .ok (.getfield 150, 3) := by decide +kernel
theorem dX3_layAlone_45 : decode cX3_layAlone 45 = .ok (.iload_n 1, 1) := by decide +kernel
theorem dX3_layAlone_46 : decode cX3_layAlone 46 = .ok (.iaload, 1) := by decide +kernel
theorem dX3_layAlone_47 : decode cX3_layAlone 47 = .ok (.iastore, 1) := by decide +kernel
theorem dX3_layAlone_48 : decode cX3_layAlone 48 = .ok (.goto 89, 3) := by decide +kernel
theorem dX3_layAlone_51 : decode cX3_layAlone 51 = .ok (.iload_n 3, 1) := by decide +kernel
theorem dX3_layAlone_52 : decode cX3_layAlone 52 = .ok (.invokestatic 153, 3) := by decide +kernel
theorem dX3_layAlone_55 : decode cX3_layAlone 55 = .ok (.ifCond .eq 82, 3) := by decide +kernel
theorem dX3_layAlone_58 : decode cX3_layAlone 58 = .ok (.aload_n 0, 1) := by decide +kernel
theorem dX3_layAlone_59 : decode cX3_layAlone 59 = .ok (.getfield 51, 3) := by decide +kernel
theorem dX3_layAlone_62 : decode cX3_layAlone 62 = .ok (.aload_n 0, 1) := by decide +kernel
theorem dX3_layAlone_63 : decode cX3_layAlone 63 = .ok (.getfield 51, 3) := by decide +kernel
theorem dX3_layAlone_66 : decode cX3_layAlone 66 = .ok (.getfield 150, 3) := by decide +kernel
theorem dX3_layAlone_69 : decode cX3_layAlone 69 = .ok (.iload_n 1, 1) := by decide +kernel
theorem dX3_layAlone_70 : decode cX3_layAlone 70 = .ok (.iaload, 1) := by decide +kernel
theorem dX3_layAlone_71 : decode cX3_layAlone 71 = .ok (.invokevirtual 104, 3) := by decide +kernel
theorem dX3_layAlone_74 : decode cX3_layAlone 74 = .ok (.ifCond .eq 63, 3) := by decide +kernel
theorem dX3_layAlone_77 : decode cX3_layAlone 77 = .ok (.aload_n 0, 1) := by decide +kernel
theorem dX3_layAlone_78 : decode cX3_layAlone 78 = .ok (.getfield 42, 3) := by decide +kernel
theorem dX3_layAlone_81 : decode cX3_layAlone 81 = .ok (.aload_n 0, 1) := by decide +kernel
theorem dX3_layAlone_82 : decode cX3_layAlone 82 = .ok (.getfield 51, 3) := by decide +kernel
theorem dX3_layAlone_85 : decode cX3_layAlone 85 = .ok (.getfield 150, 3) := by decide +kernel
theorem dX3_layAlone_88 : decode cX3_layAlone 88 = .ok (.iload_n 1, 1) := by decide +kernel
theorem dX3_layAlone_89 : decode cX3_layAlone 89 = .ok (.iaload, 1) := by decide +kernel
theorem dX3_layAlone_90 : decode cX3_layAlone 90 = .ok (.iaload, 1) := by decide +kernel
theorem dX3_layAlone_91 : decode cX3_layAlone 91 = .ok (.istore 4, 2) := by decide +kernel
theorem dX3_layAlone_93 : decode cX3_layAlone 93 = .ok (.aload_n 0, 1) := by decide +kernel
theorem dX3_layAlone_94 : decode cX3_layAlone 94 = .ok (.getfield 48, 3) := by decide +kernel
theorem dX3_layAlone_97 : decode cX3_layAlone 97 = .ok (.iload_n 2, 1) := by decide +kernel
theorem dX3_layAlone_98 : decode cX3_layAlone 98 = .ok (.iconst 1, 1) := by decide +kernel
theorem dX3_layAlone_99 : decode cX3_layAlone 99 = .ok (.iadd, 1) := by decide +kernel
theorem dX3_layAlone_100 : decode cX3_layAlone 100 = .ok (.iload 4, 2) := by decide +kernel
theorem dX3_layAlone_102 : decode cX3_layAlone 102 = .ok (.bipush 8, 2) := by decide +kernel
theorem dX3_layAlone_104 : decode cX3_layAlone 104 = .ok (.ishr, 1) := by decide +kernel
theorem dX3_layAlone_105 : decode cX3_layAlone 105 = .ok (.bipush 15, 2) := by decide +kernel
theorem dX3_layAlone_107 : decode cX3_layAlone 107 = .ok (.iand, 1) := by decide +kernel
theorem dX3_layAlone_108 : decode cX3_layAlone 108 = .ok (.iastore, 1) := by decide +kernel
theorem dX3_layAlone_109 : decode cX3_layAlone 109 = .ok (.aload_n 0, 1) := by decide +kernel
theorem dX3_layAlone_110 : decode cX3_layAlone 110 = .ok (.getfield 48, 3) := by decide +kernel
theorem dX3_layAlone_113 : decode cX3_layAlone 113 = .ok (.iload_n 2, 1) := by decide +kernel
theorem dX3_layAlone_114 : decode cX3_layAlone 114 = .ok (.iconst 2, 1) := by decide +kernel
theorem dX3_layAlone_115 : decode cX3_layAlone 115 = .ok (.iadd, 1) := by decide +kernel
theorem dX3_layAlone_116 : decode cX3_layAlone 116 = .ok (.iload 4, 2) := by decide +kernel
theorem dX3_layAlone_118 : decode cX3_layAlone 118 = .ok (.iconst 4, 1) := by decide +kernel
theorem dX3_layAlone_119 : decode cX3_layAlone 119 = .ok (.ishr, 1) := by decide +kernel
theorem dX3_layAlone_120 : decode cX3_layAlone 120 = .ok (.bipush 15, 2) := by decide +kernel
theorem dX3_layAlone_122 : decode cX3_layAlone 122 = .ok (.iand, 1) := by decide +kernel
theorem dX3_layAlone_123 : decode cX3_layAlone 123 = .ok (.iastore, 1) := by decide +kernel
theorem dX3_layAlone_124 : decode cX3_layAlone 124 = .ok (.aload_n 0, 1) := by decide +kernel
theorem dX3_layAlone_125 : decode cX3_layAlone 125 = .ok (.getfield 48, 3) := by decide +kernel
theorem dX3_layAlone_128 : decode cX3_layAlone 128 = .ok (.iload_n 2, 1) := by decide +kernel
theorem dX3_layAlone_129 : decode cX3_layAlone 129 = .ok (.iconst 3, 1) := by decide +kernel
theorem dX3_layAlone_130 : decode cX3_layAlone 130 = .ok (.iadd, 1) := by decide +kernel
theorem dX3_layAlone_131 : decode cX3_layAlone 131 = .ok (.iload 4, 2) := by decide +kernel
theorem dX3_layAlone_133 : decode cX3_layAlone 133 = .ok (.bipush 15, 2) := by decide +kernel
theorem dX3_layAlone_135 : decode cX3_layAlone 135 = .ok (.iand, 1) := by decide +kernel
theorem dX3_layAlone_136 : decode cX3_layAlone 136 = .ok (.iastore, 1) := by decide +kernel
theorem dX3_layAlone_137 : decode cX3_layAlone 137 = .ok (.return_, 1) := by decide +kernel
theorem dX3_isSequence_0 : decode cX3_isSequence 0 = .ok (.aload_n 0, 1) := by decide +kernel
theorem dX3_isSequence_1 : decode cX3_isSequence 1 = .ok (.getfield 51, 3) := by decide +kernel
theorem dX3_isSequence_4 : decode cX3_isSequence 4 = .ok (.iload_n 1, 1) := by decide +kernel
theorem dX3_isSequence_5 : decode cX3_isSequence 5 = .ok (.invokevirtual 104, 3) := by decide +kernel
theorem dX3_isSequence_8 : decode cX3_isSequence 8 = .ok (.ifCond .eq 22, 3) := by decide +kernel
theorem dX3_isSequence_11 : decode cX3_isSequence 11 = .ok (.iload_n 2, 1) := by decide +kernel
theorem dX3_isSequence_12 : decode cX3_isSequence 12 = .ok (.iconst 2, 1) := by decide +kernel
theorem dX3_isSequence_13 : decode cX3_isSequence 13 = .ok (.if_icmp .lt 17, 3) := by decide +kernel
theorem dX3_isSequence_16 : decode cX3_isSequence 16 = .ok (.iload_n 2, 1) := by decide +kernel
theorem dX3_isSequence_17 : decode cX3_isSequence 17 = .ok (.aload_n 0, 1) := by decide +kernel
theorem dX3_isSequence_18 : decode cX3_isSequence 18 = .ok (.getfield 9, 3) := by decide +kernel
theorem dX3_isSequence_21 : decode cX3_isSequence 21 = .ok (.iload_n 1, 1) := by decide +kernel
theorem dX3_isSequence_22 : decode cX3_isSequence 22 = .ok (.iaload, 1) := by decide +kernel
theorem dX3_isSequence_23 : decode cX3_isSequence 23 = .ok (.if_icmp .gt 7, 3) := by decide +kernel
theorem dX3_isSequence_26 : decode cX3_isSequence 26 = .ok (.iconst 1, 1) := by decide +kernel
theorem dX3_isSequence_27 : decode cX3_isSequence 27 = .ok (.goto 4, 3) := by decide +kernel
theorem dX3_isSequence_30 : decode cX3_isSequence 30 = .ok (.iconst 0, 1) := by decide +kernel
theorem dX3_isSequence_31 : decode cX3_isSequence 31 = .ok (.ireturn, 1) := by decide +kernel
theorem dX3_matches_0 : decode cX3_matches 0 = .ok (.aload_n 1, 1) := by decide +kernel
theorem dX3_matches_1 : decode cX3_matches 1 = .ok (.getfield 139, 3) := by decide +kernel
theorem dX3_matches_4 : decode cX3_matches 4 = .ok (.aload_n 0, 1) := by decide +kernel
theorem dX3_matches_5 : decode cX3_matches 5 = .ok (.getfield 9, 3) := by decide +kernel
theorem dX3_matches_8 : decode cX3_matches 8 = .ok (.iload_n 2, 1) := by decide +kernel
theorem dX3_matches_9 : decode cX3_matches 9 = .ok (.iaload, 1) := by decide +kernel
theorem dX3_matches_10 : decode cX3_matches 10 = .ok (.if_icmp .gt 19, 3) := by decide +kernel
theorem dX3_matches_13 : decode cX3_matches 13 = .ok (.aload_n 1, 1) := by decide +kernel
theorem dX3_matches_14 : decode cX3_matches 14 = .ok (.aload_n 0, 1) := by decide +kernel
theorem dX3_matches_15 : decode cX3_matches 15 = .ok (.getfield 51, 3) := by decide +kernel
theorem dX3_matches_18 : decode cX3_matches 18 = .ok (.iload_n 2, 1) := by decide +kernel
theorem dX3_matches_19 : decode cX3_matches 19 = .ok (.invokevirtual 156, 3) := by decide +kernel
theorem dX3_matches_22 : decode cX3_matches 22 = .ok (.ifCond .eq 7, 3) := by decide +kernel
theorem dX3_matches_25 : decode cX3_matches 25 = .ok (.iconst 1, 1) := by decide +kernel
theorem dX3_matches_26 : decode cX3_matches 26 = .ok (.goto 4, 3) := by decide +kernel
theorem dX3_matches_29 : decode cX3_matches 29 = .ok (.iconst 0, 1) := by decide +kernel
theorem dX3_matches_30 : decode cX3_matches 30 = .ok (.ireturn, 1) := by decide +kernel
theorem dX3_gainOf_0 : decode cX3_gainOf 0 = .ok (.aload_n 0, 1) := by decide +kernel
theorem dX3_gainOf_1 : decode cX3_gainOf 1 = .ok (.getfield 32, 3) := by decide +kernel
theorem dX3_gainOf_4 : decode cX3_gainOf 4 = .ok (.aload_n 0, 1) := by decide +kernel
theorem dX3_gainOf_5 : decode cX3_gainOf 5 = .ok (.getfield 51, 3) := by decide +kernel
theorem dX3_gainOf_8 : decode cX3_gainOf 8 = .ok (.iload_n 1, 1) := by decide +kernel
theorem dX3_gainOf_9 : decode cX3_gainOf 9 = .ok (.iload_n 2, 1) := by decide +kernel
theorem dX3_gainOf_10 : decode cX3_gainOf 10 = .ok (.iload_n 3, 1) := by decide +kernel
theorem dX3_gainOf_11 : decode cX3_gainOf 11 = .ok (.invokevirtual 160, 3) := by decide +kernel
theorem dX3_gainOf_14 : decode cX3_gainOf 14 = .ok (.aload_n 0, 1) := by decide +kernel
theorem dX3_gainOf_15 : decode cX3_gainOf 15 = .ok (.getfield 142, 3) := by decide +kernel
theorem dX3_gainOf_18 : decode cX3_gainOf 18 = .ok (.aload_n 0, 1) := by decide +kernel
theorem dX3_gainOf_19 : decode cX3_gainOf 19 = .ok (.invokevirtual 164, 3) := by decide +kernel
theorem dX3_gainOf_22 : decode cX3_gainOf 22 = .ok (.isub, 1) := by decide +kernel
theorem dX3_gainOf_23 : decode cX3_gainOf 23 = .ok (.iload_n 2, 1) := by decide +kernel
theorem dX3_gainOf_24 : decode cX3_gainOf 24 = .ok (.invokestatic 168, 3) := by decide +kernel
theorem dX3_gainOf_27 : decode cX3_gainOf 27 = .ok (.isub, 1) := by decide +kernel
theorem dX3_gainOf_28 : decode cX3_gainOf 28 = .ok (.ireturn, 1) := by decide +kernel
theorem dX3_fewestWithCandidate_0 : decode cX3_fewestWithCandidate 0 = .ok (.aload_n 0, 1) := by decide +kernel
theorem dX3_fewestWithCandidate_1 : decode cX3_fewestWithCandidate 1 = .ok (.getfield 32, 3) := by decide +kernel
theorem dX3_fewestWithCandidate_4 : decode cX3_fewestWithCandidate 4 = .ok (.getfield 133, 3) := by decide +kernel
theorem dX3_fewestWithCandidate_7 : decode cX3_fewestWithCandidate 7 = .ok (.invokestatic 136, 3) := by decide +kernel
theorem dX3_fewestWithCandidate_10 : decode cX3_fewestWithCandidate 10 = .ok (.istore_n 1, 1) := by decide +kernel
theorem dX3_fewestWithCandidate_11 : decode cX3_fewestWithCandidate 11 = .ok (.aload_n 0, 1) := by decide +kernel
theorem dX3_fewestWithCandidate_12 : decode cX3_fewestWithCandidate 12 = .ok (.getfield 26, 3) := by decide +kernel
theorem dX3_fewestWithCandidate_15 : decode cX3_fewestWithCandidate 15 = .ok (.aload_n 0, 1) := by decide +kernel
theorem dX3_fewestWithCandidate_16 : decode cX3_fewestWithCandidate 16 = .ok (.getfield 51, 3) := by decide +kernel
theorem dX3_fewestWithCandidate_19 : decode cX3_fewestWithCandidate 19 = .ok (.getfield 68, 3) := by decide +kernel
theorem dX3_fewestWithCandidate_22 : decode cX3_fewestWithCandidate 22 = .ok (.iconst 0, 1) := by decide +kernel
theorem dX3_fewestWithCandidate_23 : decode cX3_fewestWithCandidate 23 = .ok (.iastore, 1) := by decide +kernel
theorem dX3_fewestWithCandidate_24 : decode cX3_fewestWithCandidate 24 = .ok (.aload_n 0, 1) := by decide +kernel
theorem dX3_fewestWithCandidate_25 : decode cX3_fewestWithCandidate 25 = .ok (.getfield 51, 3) := by decide +kernel
theorem dX3_fewestWithCandidate_28 : decode cX3_fewestWithCandidate 28 = .ok (.getfield 68, 3) := by decide +kernel
theorem dX3_fewestWithCandidate_31 : decode cX3_fewestWithCandidate 31 = .ok (.iconst 1, 1) := by decide +kernel
theorem dX3_fewestWithCandidate_32 : decode cX3_fewestWithCandidate 32 = .ok (.isub, 1) := by decide +kernel
theorem dX3_fewestWithCandidate_33 : decode cX3_fewestWithCandidate 33 = .ok (.istore_n 2, 1) := by decide +kernel
theorem dX3_fewestWithCandidate_34 : decode cX3_fewestWithCandidate 34 = .ok (.iload_n 2, 1) := by decide +kernel
theorem dX3_fewestWithCandidate_35 : decode cX3_fewestWithCandidate 35 = .ok (.ifCond .lt 127, 3) := by decide +kernel
theorem dX3_fewestWithCandidate_38 : decode cX3_fewestWithCandidate 38 = .ok (.aload_n 0, 1) := by decide +kernel
theorem dX3_fewestWithCandidate_39 : decode cX3_fewestWithCandidate 39 = .ok (.getfield 51, 3) := by decide +kernel
theorem dX3_fewestWithCandidate_42 : decode cX3_fewestWithCandidate 42 = .ok (.getfield 88, 3) := by decide +kernel
theorem dX3_fewestWithCandidate_45 : decode cX3_fewestWithCandidate 45 = .ok (.iload_n 2, 1) := by decide +kernel
theorem dX3_fewestWithCandidate_46 : decode cX3_fewestWithCandidate 46 = .ok (.iaload, 1) := by decide +kernel
theorem dX3_fewestWithCandidate_47 : decode cX3_fewestWithCandidate 47 = .ok (.invokestatic 115, 3) := by decide +kernel
theorem dX3_fewestWithCandidate_50 : decode cX3_fewestWithCandidate 50 = .ok (.aload_n 0, 1) := by decide +kernel
theorem dX3_fewestWithCandidate_51 : decode cX3_fewestWithCandidate 51 = .ok (.getfield 26, 3) := by decide +kernel
theorem dX3_fewestWithCandidate_54 : decode cX3_fewestWithCandidate 54 = .ok (.iload_n 2, 1) := by decide +kernel
theorem dX3_fewestWithCandidate_55 : decode cX3_fewestWithCandidate 55 = .ok (.iconst 1, 1) := by decide +kernel
theorem dX3_fewestWithCandidate_56 : decode cX3_fewestWithCandidate 56 = .ok (.iadd, 1) := by decide +kernel
theorem dX3_fewestWithCandidate_57 : decode cX3_fewestWithCandidate 57 = .ok (.iaload, 1) := by decide +kernel
theorem dX3_fewestWithCandidate_58 : decode cX3_fewestWithCandidate 58 = .ok (.iadd, 1) := by decide +kernel
theorem dX3_fewestWithCandidate_59 : decode cX3_fewestWithCandidate 59 = .ok (.istore_n 3, 1) := by decide +kernel
theorem dX3_fewestWithCandidate_60 : decode cX3_fewestWithCandidate 60 = .ok (.iconst 2, 1) := by decide +kernel
theorem dX3_fewestWithCandidate_61 : decode cX3_fewestWithCandidate 61 = .ok (.istore 4, 2) := by decide +kernel
theorem dX3_fewestWithCandidate_63 : decode cX3_fewestWithCandidate 63 = .ok (.iload 4, 2) := by decide +kernel
theorem dX3_fewestWithCandidate_65 : decode cX3_fewestWithCandidate 65 = .ok (.aload_n 0, 1) := by decide +kernel
theorem dX3_fewestWithCandidate_66 : decode cX3_fewestWithCandidate 66 = .ok (.getfield 9, 3) := by decide +kernel
theorem dX3_fewestWithCandidate_69 : decode cX3_fewestWithCandidate 69 = .ok (.iload_n 2, 1) := by decide +kernel
theorem dX3_fewestWithCandidate_70 : decode cX3_fewestWithCandidate 70 = .ok (.iaload, 1) := by decide +kernel
theorem dX3_fewestWithCandidate_71 : decode cX3_fewestWithCandidate 71 = .ok (.if_icmp .gt 45, 3) := by decide +kernel
theorem dX3_fewestWithCandidate_74 : decode cX3_fewestWithCandidate 74 = .ok (.aload_n 0, 1) := by decide +kernel
theorem dX3_fewestWithCandidate_75 : decode cX3_fewestWithCandidate 75 = .ok (.getfield 17, 3) := by decide +kernel
theorem dX3_fewestWithCandidate_78 : decode cX3_fewestWithCandidate 78 = .ok (.iload_n 2, 1) := by decide +kernel
theorem dX3_fewestWithCandidate_79 : decode cX3_fewestWithCandidate 79 = .ok (.aaload, 1) := by decide +kernel
theorem dX3_fewestWithCandidate_80 : decode cX3_fewestWithCandidate 80 = .ok (.iload 4, 2) := by decide +kernel
theorem dX3_fewestWithCandidate_82 : decode cX3_fewestWithCandidate 82 = .ok (.iaload, 1) := by decide +kernel
theorem dX3_fewestWithCandidate_83 : decode cX3_fewestWithCandidate 83 = .ok (.ifCond .le 27, 3) := by decide +kernel
theorem dX3_fewestWithCandidate_86 : decode cX3_fewestWithCandidate 86 = .ok (.iload_n 3, 1) := by decide +kernel
theorem dX3_fewestWithCandidate_87 : decode cX3_fewestWithCandidate 87 = .ok (.aload_n 0, 1) := by decide +kernel
theorem dX3_fewestWithCandidate_88 : decode cX3_fewestWithCandidate 88 = .ok (.getfield 17, 3) := by decide +kernel
theorem dX3_fewestWithCandidate_91 : decode cX3_fewestWithCandidate 91 = .ok (.iload_n 2, 1) := by decide +kernel
theorem dX3_fewestWithCandidate_92 : decode cX3_fewestWithCandidate 92 = .ok (.aaload, 1) := by decide +kernel
theorem dX3_fewestWithCandidate_93 : decode cX3_fewestWithCandidate 93 = .ok (.iload 4, 2) := by decide +kernel
theorem dX3_fewestWithCandidate_95 : decode cX3_fewestWithCandidate 95 = .ok (.iaload, 1) := by decide +kernel
theorem dX3_fewestWithCandidate_96 : decode cX3_fewestWithCandidate 96 = .ok (.aload_n 0, 1) := by decide +kernel
theorem dX3_fewestWithCandidate_97 : decode cX3_fewestWithCandidate 97 = .ok (.getfield 26, 3) := by decide +kernel
theorem dX3_fewestWithCandidate_100 : decode cX3_fewestWithCandidate 100 = .ok (.iload_n 2, 1) := by decide +kernel
theorem dX3_fewestWithCandidate_101 : decode cX3_fewestWithCandidate 101 = .ok (.iload 4, 2) := by decide +kernel
theorem dX3_fewestWithCandidate_103 : decode cX3_fewestWithCandidate 103 = .ok (.iadd, 1) := by decide +kernel
theorem dX3_fewestWithCandidate_104 : decode cX3_fewestWithCandidate 104 = .ok (.iaload, 1) := by decide +kernel
theorem dX3_fewestWithCandidate_105 : decode cX3_fewestWithCandidate 105 = .ok (.iadd, 1) := by decide +kernel
theorem dX3_fewestWithCandidate_106 : decode cX3_fewestWithCandidate 106 = .ok (.invokestatic 98, 3) := by decide +kernel
theorem dX3_fewestWithCandidate_109 : decode cX3_fewestWithCandidate 109 = .ok (.istore_n 3, 1) := by decide +kernel
theorem dX3_fewestWithCandidate_110 : decode cX3_fewestWithCandidate 110 = .ok (.iinc 4 1, 3) := by decide +kernel
theorem dX3_fewestWithCandidate_113 : decode cX3_fewestWithCandidate 113 = .ok (.goto (-50), 3) := by decide +kernel
theorem dX3_fewestWithCandidate_116 : decode cX3_fewestWithCandidate 116 = .ok (.aload_n 0, 1) := by decide +kernel
theorem dX3_fewestWithCandidate_117 : decode cX3_fewestWithCandidate 117 = .ok (.aload_n 0, 1) := by decide +kernel
theorem dX3_fewestWithCandidate_118 : decode cX3_fewestWithCandidate 118 = .ok (.getfield 32, 3) := by decide +kernel
theorem dX3_fewestWithCandidate_121 : decode cX3_fewestWithCandidate 121 = .ok (.iload_n 2, 1) := by decide +kernel
theorem dX3_fewestWithCandidate_122 : decode cX3_fewestWithCandidate 122 = .ok (.invokevirtual 129, 3) := by decide +kernel
theorem dX3_fewestWithCandidate_125 : decode cX3_fewestWithCandidate 125 = .ok (.ifCond .eq 24, 3) := by decide +kernel
theorem dX3_fewestWithCandidate_128 : decode cX3_fewestWithCandidate 128 = .ok (.iload_n 3, 1) := by decide +kernel
theorem dX3_fewestWithCandidate_129 : decode cX3_fewestWithCandidate 129 = .ok (.iload_n 1, 1) := by decide +kernel
theorem dX3_fewestWithCandidate_130 : decode cX3_fewestWithCandidate 130 = .ok (.aload_n 0, 1) := by decide +kernel
theorem dX3_fewestWithCandidate_131 : decode cX3_fewestWithCandidate 131 = .ok (.getfield 26, 3) := by decide +kernel
theorem dX3_fewestWithCandidate_134 : decode cX3_fewestWithCandidate 134 = .ok (.iload_n 2, 1) := by decide +kernel
theorem dX3_fewestWithCandidate_135 : decode cX3_fewestWithCandidate 135 = .ok (.aload_n 0, 1) := by decide +kernel
theorem dX3_fewestWithCandidate_136 : decode cX3_fewestWithCandidate 136 = .ok (.getfield 32, 3) := by decide +kernel
theorem dX3_fewestWithCandidate_139 : decode cX3_fewestWithCandidate 139 = .ok (.getfield 139, 3) := by decide +kernel
theorem dX3_fewestWithCandidate_142 : decode cX3_fewestWithCandidate 142 = .ok (.iadd, 1) := by decide +kernel
theorem dX3_fewestWithCandidate_143 : decode cX3_fewestWithCandidate 143 = .ok (.iaload, 1) := by decide +kernel
theorem dX3_fewestWithCandidate_144 : decode cX3_fewestWithCandidate 144 = .ok (.iadd, 1) := by decide +kernel
theorem dX3_fewestWithCandidate_145 : decode cX3_fewestWithCandidate 145 = .ok (.invokestatic 98, 3) := by decide +kernel
theorem dX3_fewestWithCandidate_148 : decode cX3_fewestWithCandidate 148 = .ok (.istore_n 3, 1) := by decide +kernel
theorem dX3_fewestWithCandidate_149 : decode cX3_fewestWithCandidate 149 = .ok (.aload_n 0, 1) := by decide +kernel
theorem dX3_fewestWithCandidate_150 : decode cX3_fewestWithCandidate 150 = .ok (.getfield 26, 3) := by decide +kernel
theorem dX3_fewestWithCandidate_153 : decode cX3_fewestWithCandidate 153 = .ok (.iload_n 2, 1) := by decide +kernel
theorem dX3_fewestWithCandidate_154 : decode cX3_fewestWithCandidate 154 = .ok (.iload_n 3, 1) := by decide +kernel
theorem dX3_fewestWithCandidate_155 : decode cX3_fewestWithCandidate 155 = .ok (.iastore, 1) := by decide +kernel
theorem dX3_fewestWithCandidate_156 : decode cX3_fewestWithCandidate 156 = .ok (.iinc 2 (-1), 3) := by decide +kernel
theorem dX3_fewestWithCandidate_159 : decode cX3_fewestWithCandidate 159 = .ok (.goto (-125), 3) := by decide +kernel
theorem dX3_fewestWithCandidate_162 : decode cX3_fewestWithCandidate 162 = .ok (.aload_n 0, 1) := by decide +kernel
theorem dX3_fewestWithCandidate_163 : decode cX3_fewestWithCandidate 163 = .ok (.getfield 26, 3) := by decide +kernel
theorem dX3_fewestWithCandidate_166 : decode cX3_fewestWithCandidate 166 = .ok (.iconst 0, 1) := by decide +kernel
theorem dX3_fewestWithCandidate_167 : decode cX3_fewestWithCandidate 167 = .ok (.iaload, 1) := by decide +kernel
theorem dX3_fewestWithCandidate_168 : decode cX3_fewestWithCandidate 168 = .ok (.ireturn, 1) := by decide +kernel
theorem dX3_mostGainOf_0 : decode cX3_mostGainOf 0 = .ok (.aload_n 0, 1) := by decide +kernel
theorem dX3_mostGainOf_1 : decode cX3_mostGainOf 1 = .ok (.getfield 32, 3) := by decide +kernel
theorem dX3_mostGainOf_4 : decode cX3_mostGainOf 4 = .ok (.aload_n 0, 1) := by decide +kernel
theorem dX3_mostGainOf_5 : decode cX3_mostGainOf 5 = .ok (.getfield 51, 3) := by decide +kernel
theorem dX3_mostGainOf_8 : decode cX3_mostGainOf 8 = .ok (.iload_n 1, 1) := by decide +kernel
theorem dX3_mostGainOf_9 : decode cX3_mostGainOf 9 = .ok (.iload_n 2, 1) := by decide +kernel
theorem dX3_mostGainOf_10 : decode cX3_mostGainOf 10 = .ok (.iload_n 3, 1) := by decide +kernel
theorem dX3_mostGainOf_11 : decode cX3_mostGainOf 11 = .ok (.invokevirtual 160, 3) := by decide +kernel
theorem dX3_mostGainOf_14 : decode cX3_mostGainOf 14 = .ok (.iconst 2, 1) := by decide +kernel
theorem dX3_mostGainOf_15 : decode cX3_mostGainOf 15 = .ok (.iload_n 2, 1) := by decide +kernel
theorem dX3_mostGainOf_16 : decode cX3_mostGainOf 16 = .ok (.imul, 1) := by decide +kernel
theorem dX3_mostGainOf_17 : decode cX3_mostGainOf 17 = .ok (.aload_n 0, 1) := by decide +kernel
theorem dX3_mostGainOf_18 : decode cX3_mostGainOf 18 = .ok (.getfield 32, 3) := by decide +kernel
theorem dX3_mostGainOf_21 : decode cX3_mostGainOf 21 = .ok (.getfield 133, 3) := by decide +kernel
theorem dX3_mostGainOf_24 : decode cX3_mostGainOf 24 = .ok (.invokestatic 136, 3) := by decide +kernel
theorem dX3_mostGainOf_27 : decode cX3_mostGainOf 27 = .ok (.isub, 1) := by decide +kernel
theorem dX3_mostGainOf_28 : decode cX3_mostGainOf 28 = .ok (.istore 4, 2) := by decide +kernel
theorem dX3_mostGainOf_30 : decode cX3_mostGainOf 30 = .ok (.iload 4, 2) := by decide +kernel
theorem dX3_mostGainOf_32 : decode cX3_mostGainOf 32 = .ok (.aload_n 0, 1) := by decide +kernel
theorem dX3_mostGainOf_33 : decode cX3_mostGainOf 33 = .ok (.aload_n 0, 1) := by decide +kernel
theorem dX3_mostGainOf_34 : decode cX3_mostGainOf 34 = .ok (.getfield 32, 3) := by decide +kernel
theorem dX3_mostGainOf_37 : decode cX3_mostGainOf 37 = .ok (.invokevirtual 171, 3) := by decide +kernel
theorem dX3_mostGainOf_40 : decode cX3_mostGainOf 40 = .ok (.imul, 1) := by decide +kernel
theorem dX3_mostGainOf_41 : decode cX3_mostGainOf 41 = .ok (.iload_n 2, 1) := by decide +kernel
theorem dX3_mostGainOf_42 : decode cX3_mostGainOf 42 = .ok (.invokestatic 168, 3) := by decide +kernel
theorem dX3_mostGainOf_45 : decode cX3_mostGainOf 45 = .ok (.isub, 1) := by decide +kernel
theorem dX3_mostGainOf_46 : decode cX3_mostGainOf 46 = .ok (.ireturn, 1) := by decide +kernel
theorem dX3_matchesOf_0 : decode cX3_matchesOf 0 = .ok (.iconst 0, 1) := by decide +kernel
theorem dX3_matchesOf_1 : decode cX3_matchesOf 1 = .ok (.istore_n 2, 1) := by decide +kernel
theorem dX3_matchesOf_2 : decode cX3_matchesOf 2 = .ok (.iconst 0, 1) := by decide +kernel
theorem dX3_matchesOf_3 : decode cX3_matchesOf 3 = .ok (.istore_n 3, 1) := by decide +kernel
theorem dX3_matchesOf_4 : decode cX3_matchesOf 4 = .ok (.iload_n 3, 1) := by decide +kernel
theorem dX3_matchesOf_5 : decode cX3_matchesOf 5 = .ok (.aload_n 0, 1) := by decide +kernel
theorem dX3_matchesOf_6 : decode cX3_matchesOf 6 = .ok (.getfield 51, 3) := by decide +kernel
theorem dX3_matchesOf_9 : decode cX3_matchesOf 9 = .ok (.getfield 68, 3) := by decide +kernel
theorem dX3_matchesOf_12 : decode cX3_matchesOf 12 = .ok (.if_icmp .ge 21, 3) := by decide +kernel
theorem dX3_matchesOf_15 : decode cX3_matchesOf 15 = .ok (.aload_n 0, 1) := by decide +kernel
theorem dX3_matchesOf_16 : decode cX3_matchesOf 16 = .ok (.aload_n 1, 1) := by decide +kernel
theorem dX3_matchesOf_17 : decode cX3_matchesOf 17 = .ok (.iload_n 3, 1) := by decide +kernel
theorem dX3_matchesOf_18 : decode cX3_matchesOf 18 = .ok (.invokevirtual 129, 3) := by decide +kernel
theorem dX3_matchesOf_21 : decode cX3_matchesOf 21 = .ok (.ifCond .eq 6, 3) := by decide +kernel
theorem dX3_matchesOf_24 : decode cX3_matchesOf 24 = .ok (.iinc 2 1, 3) := by decide +kernel
theorem dX3_matchesOf_27 : decode cX3_matchesOf 27 = .ok (.iinc 3 1, 3) := by decide +kernel
theorem dX3_matchesOf_30 : decode cX3_matchesOf 30 = .ok (.goto (-26), 3) := by decide +kernel
theorem dX3_matchesOf_33 : decode cX3_matchesOf 33 = .ok (.iload_n 2, 1) := by decide +kernel
theorem dX3_matchesOf_34 : decode cX3_matchesOf 34 = .ok (.ireturn, 1) := by decide +kernel
theorem dX3_referencesTo_0 : decode cX3_referencesTo 0 = .ok (.iconst 0, 1) := by decide +kernel
theorem dX3_referencesTo_1 : decode cX3_referencesTo 1 = .ok (.istore_n 2, 1) := by decide +kernel
theorem dX3_referencesTo_2 : decode cX3_referencesTo 2 = .ok (.iconst 0, 1) := by decide +kernel
theorem dX3_referencesTo_3 : decode cX3_referencesTo 3 = .ok (.istore_n 3, 1) := by decide +kernel
theorem dX3_referencesTo_4 : decode cX3_referencesTo 4 = .ok (.iload_n 3, 1) := by decide +kernel
theorem dX3_referencesTo_5 : decode cX3_referencesTo 5 = .ok (.aload_n 0, 1) := by decide +kernel
theorem dX3_referencesTo_6 : decode cX3_referencesTo 6 = .ok (.getfield 51, 3) := by decide +kernel
theorem dX3_referencesTo_9 : decode cX3_referencesTo 9 = .ok (.getfield 68, 3) := by decide +kernel
theorem dX3_referencesTo_12 : decode cX3_referencesTo 12 = .ok (.if_icmp .ge 31, 3) := by decide +kernel
theorem dX3_referencesTo_15 : decode cX3_referencesTo 15 = .ok (.aload_n 0, 1) := by decide +kernel
theorem dX3_referencesTo_16 : decode cX3_referencesTo 16 = .ok (.getfield 36, 3) := by decide +kernel
theorem dX3_referencesTo_19 : decode cX3_referencesTo 19 = .ok (.iload_n 3, 1) := by decide +kernel
theorem dX3_referencesTo_20 : decode cX3_referencesTo 20 = .ok (.iaload, 1) := by decide +kernel
theorem dX3_referencesTo_21 : decode cX3_referencesTo 21 = .ok (.iload_n 1, 1) := by decide +kernel
theorem dX3_referencesTo_22 : decode cX3_referencesTo 22 = .ok (.if_icmp .ne 15, 3) := by decide +kernel
theorem dX3_referencesTo_25 : decode cX3_referencesTo 25 = .ok (.aload_n 0, 1) := by decide +kernel
theorem dX3_referencesTo_26 : decode cX3_referencesTo 26 = .ok (.getfield 39, 3) := by decide +kernel
theorem dX3_referencesTo_29 : decode cX3_referencesTo 29 = .ok (.iload_n 3, 1) := by decide +kernel
theorem dX3_referencesTo_30 : decode cX3_referencesTo 30 = .ok (.iaload, 1) := by decide +kernel
theorem dX3_referencesTo_31 : decode cX3_referencesTo 31 = .ok (.ifCond .ne 6, 3) := by decide +kernel
theorem dX3_referencesTo_34 : decode cX3_referencesTo 34 = .ok (.iinc 2 1, 3) := by decide +kernel
theorem dX3_referencesTo_37 : decode cX3_referencesTo 37 = .ok (.iinc 3 1, 3) := by decide +kernel
theorem dX3_referencesTo_40 : decode cX3_referencesTo 40 = .ok (.goto (-36), 3) := by decide +kernel
theorem dX3_referencesTo_43 : decode cX3_referencesTo 43 = .ok (.iload_n 2, 1) := by decide +kernel
theorem dX3_referencesTo_44 : decode cX3_referencesTo 44 = .ok (.ireturn, 1) := by decide +kernel
theorem dX3_references_0 : decode cX3_references 0 = .ok (.iconst 0, 1) := by decide +kernel
theorem dX3_references_1 : decode cX3_references 1 = .ok (.istore_n 3, 1) := by decide +kernel
theorem dX3_references_2 : decode cX3_references 2 = .ok (.iload_n 1, 1) := by decide +kernel
theorem dX3_references_3 : decode cX3_references 3 = .ok (.istore 4, 2) := by decide +kernel
theorem dX3_references_5 : decode cX3_references 5 = .ok (.iload 4, 2) := by decide +kernel
theorem dX3_references_7 : decode cX3_references 7 = .ok (.iload_n 2, 1) := by decide +kernel
theorem dX3_references_8 : decode cX3_references 8 = .ok (.if_icmp .ge 34, 3) := by decide +kernel
theorem dX3_references_11 : decode cX3_references 11 = .ok (.iload 4, 2) := by decide +kernel
theorem dX3_references_13 : decode cX3_references 13 = .ok (.aload_n 0, 1) := by decide +kernel
theorem dX3_references_14 : decode cX3_references 14 = .ok (.getfield 51, 3) := by decide +kernel
theorem dX3_references_17 : decode cX3_references 17 = .ok (.getfield 68, 3) := by decide +kernel
theorem dX3_references_20 : decode cX3_references 20 = .ok (.if_icmp .ge 22, 3) := by decide +kernel
theorem dX3_references_23 : decode cX3_references 23 = .ok (.aload_n 0, 1) := by decide +kernel
theorem dX3_references_24 : decode cX3_references 24 = .ok (.getfield 39, 3) := by decide +kernel
theorem dX3_references_27 : decode cX3_references 27 = .ok (.iload 4, 2) := by decide +kernel
theorem dX3_references_29 : decode cX3_references 29 = .ok (.iaload, 1) := by decide +kernel
theorem dX3_references_30 : decode cX3_references 30 = .ok (.ifCond .ne 6, 3) := by decide +kernel
theorem dX3_references_33 : decode cX3_references 33 = .ok (.iinc 3 1, 3) := by decide +kernel
theorem dX3_references_36 : decode cX3_references 36 = .ok (.iinc 4 1, 3) := by decide +kernel
theorem dX3_references_39 : decode cX3_references 39 = .ok (.goto (-34), 3) := by decide +kernel
theorem dX3_references_42 : decode cX3_references 42 = .ok (.iload_n 3, 1) := by decide +kernel
theorem dX3_references_43 : decode cX3_references 43 = .ok (.ireturn, 1) := by decide +kernel
theorem dX3_instructionOf_0 : decode cX3_instructionOf 0 = .ok (.iconst 0, 1) := by decide +kernel
theorem dX3_instructionOf_1 : decode cX3_instructionOf 1 = .ok (.istore_n 2, 1) := by decide +kernel
theorem dX3_instructionOf_2 : decode cX3_instructionOf 2 = .ok (.iload_n 2, 1) := by decide +kernel
theorem dX3_instructionOf_3 : decode cX3_instructionOf 3 = .ok (.aload_n 0, 1) := by decide +kernel
theorem dX3_instructionOf_4 : decode cX3_instructionOf 4 = .ok (.getfield 51, 3) := by decide +kernel
theorem dX3_instructionOf_7 : decode cX3_instructionOf 7 = .ok (.getfield 68, 3) := by decide +kernel
theorem dX3_instructionOf_10 : decode cX3_instructionOf 10 = .ok (.if_icmp .ge 21, 3) := by decide +kernel
theorem dX3_instructionOf_13 : decode cX3_instructionOf 13 = .ok (.aload_n 0, 1) := by decide +kernel
theorem dX3_instructionOf_14 : decode cX3_instructionOf 14 = .ok (.getfield 42, 3) := by decide +kernel
theorem dX3_instructionOf_17 : decode cX3_instructionOf 17 = .ok (.iload_n 2, 1) := by decide +kernel
theorem dX3_instructionOf_18 : decode cX3_instructionOf 18 = .ok (.iaload, 1) := by decide +kernel
theorem dX3_instructionOf_19 : decode cX3_instructionOf 19 = .ok (.iload_n 1, 1) := by decide +kernel
theorem dX3_instructionOf_20 : decode cX3_instructionOf 20 = .ok (.if_icmp .ne 5, 3) := by decide +kernel
theorem dX3_instructionOf_23 : decode cX3_instructionOf 23 = .ok (.iload_n 2, 1) := by decide +kernel
theorem dX3_instructionOf_24 : decode cX3_instructionOf 24 = .ok (.ireturn, 1) := by decide +kernel
theorem dX3_instructionOf_25 : decode cX3_instructionOf 25 = .ok (.iinc 2 1, 3) := by decide +kernel
theorem dX3_instructionOf_28 : decode cX3_instructionOf 28 = .ok (.goto (-26), 3) := by decide +kernel
theorem dX3_instructionOf_31 : decode cX3_instructionOf 31 = .ok (.bipush (-4), 2) := by decide +kernel
theorem dX3_instructionOf_33 : decode cX3_instructionOf 33 = .ok (.ireturn, 1) := by decide +kernel
theorem dX3_lineOf_0 : decode cX3_lineOf 0 = .ok (.iload_n 1, 1) := by decide +kernel
theorem dX3_lineOf_1 : decode cX3_lineOf 1 = .ok (.aload_n 0, 1) := by decide +kernel
theorem dX3_lineOf_2 : decode cX3_lineOf 2 = .ok (.getfield 65, 3) := by decide +kernel
theorem dX3_lineOf_5 : decode cX3_lineOf 5 = .ok (.ishr, 1) := by decide +kernel
theorem dX3_lineOf_6 : decode cX3_lineOf 6 = .ok (.ireturn, 1) := by decide +kernel
theorem dX3_firstOf_0 : decode cX3_firstOf 0 = .ok (.iload_n 1, 1) := by decide +kernel
theorem dX3_firstOf_1 : decode cX3_firstOf 1 = .ok (.aload_n 0, 1) := by decide +kernel
theorem dX3_firstOf_2 : decode cX3_firstOf 2 = .ok (.getfield 65, 3) := by decide +kernel
theorem dX3_firstOf_5 : decode cX3_firstOf 5 = .ok (.ishl, 1) := by decide +kernel
theorem dX3_firstOf_6 : decode cX3_firstOf 6 = .ok (.ireturn, 1) := by decide +kernel
theorem dX3_lineAddress_0 : decode cX3_lineAddress 0 = .ok (.aload_n 0, 1) := by decide +kernel
theorem dX3_lineAddress_1 : decode cX3_lineAddress 1 = .ok (.iload_n 1, 1) := by decide +kernel
theorem dX3_lineAddress_2 : decode cX3_lineAddress 2 = .ok (.invokevirtual 175, 3) := by decide +kernel
theorem dX3_lineAddress_5 : decode cX3_lineAddress 5 = .ok (.istore_n 2, 1) := by decide +kernel
theorem dX3_lineAddress_6 : decode cX3_lineAddress 6 = .ok (.aload_n 0, 1) := by decide +kernel
theorem dX3_lineAddress_7 : decode cX3_lineAddress 7 = .ok (.getfield 51, 3) := by decide +kernel
theorem dX3_lineAddress_10 : decode cX3_lineAddress 10 = .ok (.iload_n 2, 1) := by decide +kernel
theorem dX3_lineAddress_11 : decode cX3_lineAddress 11 = .ok (.invokevirtual 104, 3) := by decide +kernel
theorem dX3_lineAddress_14 : decode cX3_lineAddress 14 = .ok (.ifCond .eq 12, 3) := by decide +kernel
theorem dX3_lineAddress_17 : decode cX3_lineAddress 17 = .ok (.aload_n 0, 1) := by decide +kernel
theorem dX3_lineAddress_18 : decode cX3_lineAddress 18 = .ok (.getfield 42, 3) := by decide +kernel
theorem dX3_lineAddress_21 : decode cX3_lineAddress 21 = .ok (.iload_n 2, 1) := by decide +kernel
theorem dX3_lineAddress_22 : decode cX3_lineAddress 22 = .ok (.iaload, 1) := by decide +kernel
theorem dX3_lineAddress_23 : decode cX3_lineAddress 23 = .ok (.goto 7, 3) := by decide +kernel
theorem dX3_lineAddress_26 : decode cX3_lineAddress 26 = .ok (.aload_n 0, 1) := by decide +kernel
theorem dX3_lineAddress_27 : decode cX3_lineAddress 27 = .ok (.getfield 142, 3) := by decide +kernel
theorem dX3_lineAddress_30 : decode cX3_lineAddress 30 = .ok (.ireturn, 1) := by decide +kernel
theorem dX3_lineNibbles_0 : decode cX3_lineNibbles 0 = .ok (.aload_n 0, 1) := by decide +kernel
theorem dX3_lineNibbles_1 : decode cX3_lineNibbles 1 = .ok (.iload_n 1, 1) := by decide +kernel
theorem dX3_lineNibbles_2 : decode cX3_lineNibbles 2 = .ok (.iconst 1, 1) := by decide +kernel
theorem dX3_lineNibbles_3 : decode cX3_lineNibbles 3 = .ok (.iadd, 1) := by decide +kernel
theorem dX3_lineNibbles_4 : decode cX3_lineNibbles 4 = .ok (.invokevirtual 178, 3) := by decide +kernel
theorem dX3_lineNibbles_7 : decode cX3_lineNibbles 7 = .ok (.aload_n 0, 1) := by decide +kernel
theorem dX3_lineNibbles_8 : decode cX3_lineNibbles 8 = .ok (.iload_n 1, 1) := by decide +kernel
theorem dX3_lineNibbles_9 : decode cX3_lineNibbles 9 = .ok (.invokevirtual 178, 3) := by decide +kernel
theorem dX3_lineNibbles_12 : decode cX3_lineNibbles 12 = .ok (.isub, 1) := by decide +kernel
theorem dX3_lineNibbles_13 : decode cX3_lineNibbles 13 = .ok (.ireturn, 1) := by decide +kernel
theorem dX4_init_0 : decode cX4_init 0 = .ok (.aload_n 0, 1) := by decide +kernel
theorem dX4_init_1 : decode cX4_init 1 = .ok (.invokespecial 3, 3) := by decide +kernel
theorem dX4_init_4 : decode cX4_init 4 = .ok (.aload_n 0, 1) := by decide +kernel
theorem dX4_init_5 : decode cX4_init 5 = .ok (.bipush 48, 2) := by decide +kernel
theorem dX4_init_7 : decode cX4_init 7 = .ok (.newarray .int, 2) := by decide +kernel
theorem dX4_init_9 : decode cX4_init 9 = .ok (.putfield 9, 3) := by decide +kernel
theorem dX4_init_12 : decode cX4_init 12 = .ok (.aload_n 0, 1) := by decide +kernel
theorem dX4_init_13 : decode cX4_init 13 = .ok (.bipush 48, 2) := by decide +kernel
theorem dX4_init_15 : decode cX4_init 15 = .ok (.newarray .int, 2) := by decide +kernel
theorem dX4_init_17 : decode cX4_init 17 = .ok (.putfield 15, 3) := by decide +kernel
theorem dX4_init_20 : decode cX4_init 20 = .ok (.aload_n 0, 1) := by decide +kernel
theorem dX4_init_21 : decode cX4_init 21 = .ok (.bipush 48, 2) := by decide +kernel
theorem dX4_init_23 : decode cX4_init 23 = .ok (.newarray .boolean, 2) := by decide +kernel
theorem dX4_init_25 : decode cX4_init 25 = .ok (.putfield 18, 3) := by decide +kernel
theorem dX4_init_28 : decode cX4_init 28 = .ok (.return_, 1) := by decide +kernel
theorem dX4_take_0 : decode cX4_take 0 = .ok (.aload_n 0, 1) := by decide +kernel
theorem dX4_take_1 : decode cX4_take 1 = .ok (.aload_n 1, 1) := by decide +kernel
theorem dX4_take_2 : decode cX4_take 2 = .ok (.getfield 22, 3) := by decide +kernel
theorem dX4_take_5 : decode cX4_take 5 = .ok (.putfield 28, 3) := by decide +kernel
theorem dX4_take_8 : decode cX4_take 8 = .ok (.iconst 0, 1) := by decide +kernel
theorem dX4_take_9 : decode cX4_take 9 = .ok (.istore_n 2, 1) := by decide +kernel
theorem dX4_take_10 : decode cX4_take 10 = .ok (.iload_n 2, 1) := by decide +kernel
theorem dX4_take_11 : decode cX4_take 11 = .ok (.aload_n 0, 1) := by decide +kernel
theorem dX4_take_12 : decode cX4_take 12 = .ok (.getfield 28, 3) := by decide +kernel
theorem dX4_take_15 : decode cX4_take 15 = .ok (.if_icmp .ge 38, 3) := by decide +kernel
theorem dX4_take_18 : decode cX4_take 18 = .ok (.aload_n 0, 1) := by decide +kernel
theorem dX4_take_19 : decode cX4_take 19 = .ok (.getfield 9, 3) := by decide +kernel
theorem dX4_take_22 : decode cX4_take 22 = .ok (.iload_n 2, 1) := by decide +kernel
theorem dX4_take_23 : decode cX4_take 23 = .ok (.aload_n 1, 1) := by decide +kernel
theorem dX4_take_24 : decode cX4_take 24 = .ok (.iload_n 2, 1) := by decide +kernel
theorem dX4_take_25 : decode cX4_take 25 = .ok (.invokevirtual 31, 3) := by decide +kernel
theorem dX4_take_28 : decode cX4_take 28 = .ok (.iastore, 1) := by decide +kernel
theorem dX4_take_29 : decode cX4_take 29 = .ok (.aload_n 0, 1) := by decide +kernel
theorem dX4_take_30 : decode cX4_take 30 = .ok (.getfield 15, 3) := by decide +kernel
theorem dX4_take_33 : decode cX4_take 33 = .ok (.iload_n 2, 1) := by decide +kernel
theorem dX4_take_34 : decode cX4_take 34 = .ok (.aload_n 1, 1) := by decide +kernel
theorem dX4_take_35 : decode cX4_take 35 = .ok (.iload_n 2, 1) := by decide +kernel
theorem dX4_take_36 : decode cX4_take 36 = .ok (.invokevirtual 35, 3) := by decide +kernel
theorem dX4_take_39 : decode cX4_take 39 = .ok (.iastore, 1) := by decide +kernel
theorem dX4_take_40 : decode cX4_take 40 = .ok (.aload_n 0, 1) := by decide +kernel
theorem dX4_take_41 : decode cX4_take 41 = .ok (.getfield 18, 3) := by decide +kernel
theorem dX4_take_44 : decode cX4_take 44 = .ok (.iload_n 2, 1) := by decide +kernel
theorem dX4_take_45 : decode cX4_take 45 = .ok (.iconst 0, 1) := by decide +kernel
theorem dX4_take_46 : decode cX4_take 46 = .ok (.bastore, 1) := by decide +kernel
theorem dX4_take_47 : decode cX4_take 47 = .ok (.iinc 2 1, 3) := by decide +kernel
theorem dX4_take_50 : decode cX4_take 50 = .ok (.goto (-40), 3) := by decide +kernel
theorem dX4_take_53 : decode cX4_take 53 = .ok (.iconst 0, 1) := by decide +kernel
theorem dX4_take_54 : decode cX4_take 54 = .ok (.istore_n 2, 1) := by decide +kernel
theorem dX4_take_55 : decode cX4_take 55 = .ok (.iload_n 2, 1) := by decide +kernel
theorem dX4_take_56 : decode cX4_take 56 = .ok (.aload_n 0, 1) := by decide +kernel
theorem dX4_take_57 : decode cX4_take 57 = .ok (.getfield 28, 3) := by decide +kernel
theorem dX4_take_60 : decode cX4_take 60 = .ok (.if_icmp .ge 46, 3) := by decide +kernel
theorem dX4_take_63 : decode cX4_take 63 = .ok (.aload_n 0, 1) := by decide +kernel
theorem dX4_take_64 : decode cX4_take 64 = .ok (.getfield 9, 3) := by decide +kernel
theorem dX4_take_67 : decode cX4_take 67 = .ok (.iload_n 2, 1) := by decide +kernel
theorem dX4_take_68 : decode cX4_take 68 = .ok (.iaload, 1) := by decide +kernel
theorem dX4_take_69 : decode cX4_take 69 = .ok (.invokestatic 38, 3) := by decide +kernel
theorem dX4_take_72 : decode cX4_take 72 = .ok (.ifCond .eq 28, 3) := by decide +kernel
theorem dX4_take_75 : decode cX4_take 75 = .ok (.aload_n 0, 1) := by decide +kernel
theorem dX4_take_76 : decode cX4_take 76 = .ok (.aload_n 0, 1) := by decide +kernel
theorem dX4_take_77 : decode cX4_take 77 = .ok (.getfield 15, 3) := by decide +kernel
theorem dX4_take_80 : decode cX4_take 80 = .ok (.iload_n 2, 1) := by decide +kernel
theorem dX4_take_81 : decode cX4_take 81 = .ok (.iaload, 1) := by decide +kernel
theorem dX4_take_82 : decode cX4_take 82 = .ok (.invokevirtual 42, 3) := by decide +kernel
theorem dX4_take_85 : decode cX4_take 85 = .ok (.ifCond .eq 15, 3) := by decide +kernel
theorem dX4_take_88 : decode cX4_take 88 = .ok (.aload_n 0, 1) := by decide +kernel
theorem dX4_take_89 : decode cX4_take 89 = .ok (.getfield 18, 3) := by decide +kernel
theorem dX4_take_92 : decode cX4_take 92 = .ok (.aload_n 0, 1) := by decide +kernel
theorem dX4_take_93 : decode cX4_take 93 = .ok (.getfield 15, 3) := by decide +kernel
theorem dX4_take_96 : decode cX4_take 96 = .ok (.iload_n 2, 1) := by decide +kernel
theorem dX4_take_97 : decode cX4_take 97 = .ok (.iaload, 1) := by decide +kernel
theorem dX4_take_98 : decode cX4_take 98 = .ok (.iconst 1, 1) := by decide +kernel
theorem dX4_take_99 : decode cX4_take 99 = .ok (.bastore, 1) := by decide +kernel
theorem dX4_take_100 : decode cX4_take 100 = .ok (.iinc 2 1, 3) := by decide +kernel
theorem dX4_take_103 : decode cX4_take 103 = .ok (.goto (-48), 3) := by decide +kernel
theorem dX4_take_106 : decode cX4_take 106 = .ok (.return_, 1) := by decide +kernel
theorem dX4_has_0 : decode cX4_has 0 = .ok (.iload_n 1, 1) := by decide +kernel
theorem dX4_has_1 : decode cX4_has 1 = .ok (.ifCond .lt 15, 3) := by decide +kernel
theorem dX4_has_4 : decode cX4_has 4 = .ok (.iload_n 1, 1) := by decide +kernel
theorem dX4_has_5 : decode cX4_has 5 = .ok (.aload_n 0, 1) := by decide +kernel
theorem dX4_has_6 : decode cX4_has 6 = .ok (.getfield 28, 3) := by decide +kernel
theorem dX4_has_9 : decode cX4_has 9 = .ok (.if_icmp .ge 7, 3) := by decide +kernel
theorem dX4_has_12 : decode cX4_has 12 = .ok (.iconst 1, 1) := by decide +kernel
theorem dX4_has_13 : decode cX4_has 13 = .ok (.goto 4, 3) := by decide +kernel
theorem dX4_has_16 : decode cX4_has 16 = .ok (.iconst 0, 1) := by decide +kernel
theorem dX4_has_17 : decode cX4_has 17 = .ok (.ireturn, 1) := by decide +kernel
theorem dX4_targetCount_0 : decode cX4_targetCount 0 = .ok (.iconst 0, 1) := by decide +kernel
theorem dX4_targetCount_1 : decode cX4_targetCount 1 = .ok (.istore_n 1, 1) := by decide +kernel
theorem dX4_targetCount_2 : decode cX4_targetCount 2 = .ok (.iconst 0, 1) := by decide +kernel
theorem dX4_targetCount_3 : decode cX4_targetCount 3 = .ok (.istore_n 2, 1) := by decide +kernel
theorem dX4_targetCount_4 : decode cX4_targetCount 4 = .ok (.iload_n 2, 1) := by decide +kernel
theorem dX4_targetCount_5 : decode cX4_targetCount 5 = .ok (.aload_n 0, 1) := by decide +kernel
theorem dX4_targetCount_6 : decode cX4_targetCount 6 = .ok (.getfield 28, 3) := by decide +kernel
theorem dX4_targetCount_9 : decode cX4_targetCount 9 = .ok (.if_icmp .ge 21, 3) := by decide +kernel
theorem dX4_targetCount_12 : decode cX4_targetCount 12 = .ok (.aload_n 0, 1) := by decide +kernel
theorem dX4_targetCount_13 : decode cX4_targetCount 13 = .ok (.getfield 18, 3) := by decide +kernel
theorem dX4_targetCount_16 : decode cX4_targetCount 16 = .ok (.iload_n 2, 1) := by decide +kernel
theorem dX4_targetCount_17 : decode cX4_targetCount 17 = .ok (.baload, 1) := by decide +kernel
theorem dX4_targetCount_18 : decode cX4_targetCount 18 = .ok (.ifCond .eq 6, 3) := by decide +kernel
theorem dX4_targetCount_21 : decode cX4_targetCount 21 = .ok (.iinc 1 1, 3) := by decide +kernel
theorem dX4_targetCount_24 : decode cX4_targetCount 24 = .ok (.iinc 2 1, 3) := by decide +kernel
theorem dX4_targetCount_27 : decode cX4_targetCount 27 = .ok (.goto (-23), 3) := by decide +kernel
theorem dX4_targetCount_30 : decode cX4_targetCount 30 = .ok (.iload_n 1, 1) := by decide +kernel
theorem dX4_targetCount_31 : decode cX4_targetCount 31 = .ok (.ireturn, 1) := by decide +kernel
theorem dX4_plainNibbles_0 : decode cX4_plainNibbles 0 = .ok (.iconst 0, 1) := by decide +kernel
theorem dX4_plainNibbles_1 : decode cX4_plainNibbles 1 = .ok (.istore_n 1, 1) := by decide +kernel
theorem dX4_plainNibbles_2 : decode cX4_plainNibbles 2 = .ok (.iconst 0, 1) := by decide +kernel
theorem dX4_plainNibbles_3 : decode cX4_plainNibbles 3 = .ok (.istore_n 2, 1) := by decide +kernel
theorem dX4_plainNibbles_4 : decode cX4_plainNibbles 4 = .ok (.iload_n 2, 1) := by decide +kernel
theorem dX4_plainNibbles_5 : decode cX4_plainNibbles 5 = .ok (.aload_n 0, 1) := by decide +kernel
theorem dX4_plainNibbles_6 : decode cX4_plainNibbles 6 = .ok (.getfield 28, 3) := by decide +kernel
theorem dX4_plainNibbles_9 : decode cX4_plainNibbles 9 = .ok (.if_icmp .ge 21, 3) := by decide +kernel
theorem dX4_plainNibbles_12 : decode cX4_plainNibbles 12 = .ok (.iload_n 1, 1) := by decide +kernel
theorem dX4_plainNibbles_13 : decode cX4_plainNibbles 13 = .ok (.aload_n 0, 1) := by decide +kernel
theorem dX4_plainNibbles_14 : decode cX4_plainNibbles 14 = .ok (.getfield 9, 3) := by decide +kernel
theorem dX4_plainNibbles_17 : decode cX4_plainNibbles 17 = .ok (.iload_n 2, 1) := by decide +kernel
theorem dX4_plainNibbles_18 : decode cX4_plainNibbles 18 = .ok (.iaload, 1) := by decide +kernel
theorem dX4_plainNibbles_19 : decode cX4_plainNibbles 19 = .ok (.invokestatic 45, 3) := by decide +kernel
theorem dX4_plainNibbles_22 : decode cX4_plainNibbles 22 = .ok (.iadd, 1) := by decide +kernel
theorem dX4_plainNibbles_23 : decode cX4_plainNibbles 23 = .ok (.istore_n 1, 1) := by decide +kernel
theorem dX4_plainNibbles_24 : decode cX4_plainNibbles 24 = .ok (.iinc 2 1, 3) := by decide +kernel
theorem dX4_plainNibbles_27 : decode cX4_plainNibbles 27 = .ok (.goto (-23), 3) := by decide +kernel
theorem dX4_plainNibbles_30 : decode cX4_plainNibbles 30 = .ok (.iload_n 1, 1) := by decide +kernel
theorem dX4_plainNibbles_31 : decode cX4_plainNibbles 31 = .ok (.ireturn, 1) := by decide +kernel
theorem dX5_init_0 : decode cX5_init 0 = .ok (.aload_n 0, 1) := by decide +kernel
theorem dX5_init_1 : decode cX5_init 1 = .ok (.invokespecial 3, 3) := by decide +kernel
theorem dX5_init_4 : decode cX5_init 4 = .ok (.aload_n 0, 1) := by decide +kernel
theorem dX5_init_5 : decode cX5_init 5 = .ok (.bipush 10, 2) := by decide +kernel
theorem dX5_init_7 : decode cX5_init 7 = .ok (.newarray .int, 2) := by decide +kernel
theorem dX5_init_9 : decode cX5_init 9 = .ok (.putfield 9, 3) := by decide +kernel
theorem dX5_init_12 : decode cX5_init 12 = .ok (.aload_n 0, 1) := by decide +kernel
theorem dX5_init_13 : decode cX5_init 13 = .ok (.bipush 12, 2) := by decide +kernel
theorem dX5_init_15 : decode cX5_init 15 = .ok (.newarray .int, 2) := by decide +kernel
theorem dX5_init_17 : decode cX5_init 17 = .ok (.putfield 15, 3) := by decide +kernel
theorem dX5_init_20 : decode cX5_init 20 = .ok (.aload_n 0, 1) := by decide +kernel
theorem dX5_init_21 : decode cX5_init 21 = .ok (.iconst 4, 1) := by decide +kernel
theorem dX5_init_22 : decode cX5_init 22 = .ok (.newarray .int, 2) := by decide +kernel
theorem dX5_init_24 : decode cX5_init 24 = .ok (.putfield 18, 3) := by decide +kernel
theorem dX5_init_27 : decode cX5_init 27 = .ok (.aload_n 0, 1) := by decide +kernel
theorem dX5_init_28 : decode cX5_init 28 = .ok (.aload_n 1, 1) := by decide +kernel
theorem dX5_init_29 : decode cX5_init 29 = .ok (.putfield 21, 3) := by decide +kernel
theorem dX5_init_32 : decode cX5_init 32 = .ok (.aload_n 0, 1) := by decide +kernel
theorem dX5_init_33 : decode cX5_init 33 = .ok (.aload_n 2, 1) := by decide +kernel
theorem dX5_init_34 : decode cX5_init 34 = .ok (.putfield 25, 3) := by decide +kernel
theorem dX5_init_37 : decode cX5_init 37 = .ok (.return_, 1) := by decide +kernel
theorem dX5_begin_0 : decode cX5_begin 0 = .ok (.aload_n 0, 1) := by decide +kernel
theorem dX5_begin_1 : decode cX5_begin 1 = .ok (.iconst 1, 1) := by decide +kernel
theorem dX5_begin_2 : decode cX5_begin 2 = .ok (.putfield 29, 3) := by decide +kernel
theorem dX5_begin_5 : decode cX5_begin 5 = .ok (.aload_n 0, 1) := by decide +kernel
theorem dX5_begin_6 : decode cX5_begin 6 = .ok (.iconst 0, 1) := by decide +kernel
theorem dX5_begin_7 : decode cX5_begin 7 = .ok (.putfield 33, 3) := by decide +kernel
theorem dX5_begin_10 : decode cX5_begin 10 = .ok (.aload_n 0, 1) := by decide +kernel
theorem dX5_begin_11 : decode cX5_begin 11 = .ok (.iload_n 1, 1) := by decide +kernel
theorem dX5_begin_12 : decode cX5_begin 12 = .ok (.putfield 36, 3) := by decide +kernel
theorem dX5_begin_15 : decode cX5_begin 15 = .ok (.aload_n 0, 1) := by decide +kernel
theorem dX5_begin_16 : decode cX5_begin 16 = .ok (.iconst 0, 1) := by decide +kernel
theorem dX5_begin_17 : decode cX5_begin 17 = .ok (.putfield 39, 3) := by decide +kernel
theorem dX5_begin_20 : decode cX5_begin 20 = .ok (.aload_n 0, 1) := by decide +kernel
theorem dX5_begin_21 : decode cX5_begin 21 = .ok (.iconst 0, 1) := by decide +kernel
theorem dX5_begin_22 : decode cX5_begin 22 = .ok (.putfield 42, 3) := by decide +kernel
theorem dX5_begin_25 : decode cX5_begin 25 = .ok (.aload_n 0, 1) := by decide +kernel
theorem dX5_begin_26 : decode cX5_begin 26 = .ok (.iconst 0, 1) := by decide +kernel
theorem dX5_begin_27 : decode cX5_begin 27 = .ok (.putfield 46, 3) := by decide +kernel
theorem dX5_begin_30 : decode cX5_begin 30 = .ok (.aload_n 0, 1) := by decide +kernel
theorem dX5_begin_31 : decode cX5_begin 31 = .ok (.iconst 0, 1) := by decide +kernel
theorem dX5_begin_32 : decode cX5_begin 32 = .ok (.putfield 49, 3) := by decide +kernel
theorem dX5_begin_35 : decode cX5_begin 35 = .ok (.aload_n 0, 1) := by decide +kernel
theorem dX5_begin_36 : decode cX5_begin 36 = .ok (.iconst 0, 1) := by decide +kernel
theorem dX5_begin_37 : decode cX5_begin 37 = .ok (.putfield 52, 3) := by decide +kernel
theorem dX5_begin_40 : decode cX5_begin 40 = .ok (.aload_n 0, 1) := by decide +kernel
theorem dX5_begin_41 : decode cX5_begin 41 = .ok (.iload_n 2, 1) := by decide +kernel
theorem dX5_begin_42 : decode cX5_begin 42 = .ok (.iconst 4, 1) := by decide +kernel
theorem dX5_begin_43 : decode cX5_begin 43 = .ok (.invokestatic 55, 3) := by decide +kernel
theorem dX5_begin_46 : decode cX5_begin 46 = .ok (.putfield 61, 3) := by decide +kernel
theorem dX5_begin_49 : decode cX5_begin 49 = .ok (.aload_n 0, 1) := by decide +kernel
theorem dX5_begin_50 : decode cX5_begin 50 = .ok (.iconst 0, 1) := by decide +kernel
theorem dX5_begin_51 : decode cX5_begin 51 = .ok (.putfield 64, 3) := by decide +kernel
theorem dX5_begin_54 : decode cX5_begin 54 = .ok (.aload_n 0, 1) := by decide +kernel
theorem dX5_begin_55 : decode cX5_begin 55 = .ok (.iconst 0, 1) := by decide +kernel
theorem dX5_begin_56 : decode cX5_begin 56 = .ok (.putfield 67, 3) := by decide +kernel
theorem dX5_begin_59 : decode cX5_begin 59 = .ok (.aload_n 0, 1) := by decide +kernel
theorem dX5_begin_60 : decode cX5_begin 60 = .ok (.iconst 0, 1) := by decide +kernel
theorem dX5_begin_61 : decode cX5_begin 61 = .ok (.putfield 70, 3) := by decide +kernel
theorem dX5_begin_64 : decode cX5_begin 64 = .ok (.iconst 0, 1) := by decide +kernel
theorem dX5_begin_65 : decode cX5_begin 65 = .ok (.istore_n 3, 1) := by decide +kernel
theorem dX5_begin_66 : decode cX5_begin 66 = .ok (.iload_n 3, 1) := by decide +kernel
theorem dX5_begin_67 : decode cX5_begin 67 = .ok (.bipush 10, 2) := by decide +kernel
theorem dX5_begin_69 : decode cX5_begin 69 = .ok (.if_icmp .ge 16, 3) := by decide +kernel
theorem dX5_begin_72 : decode cX5_begin 72 = .ok (.aload_n 0, 1) := by decide +kernel
theorem dX5_begin_73 : decode cX5_begin 73 = .ok (.getfield 9, 3) := by decide +kernel
theorem dX5_begin_76 : decode cX5_begin 76 = .ok (.iload_n 3, 1) := by decide +kernel
theorem dX5_begin_77 : decode cX5_begin 77 = .ok (.iconst 0, 1) := by decide +kernel
theorem dX5_begin_78 : decode cX5_begin 78 = .ok (.iastore, 1) := by decide +kernel
theorem dX5_begin_79 : decode cX5_begin 79 = .ok (.iinc 3 1, 3) := by decide +kernel
theorem dX5_begin_82 : decode cX5_begin 82 = .ok (.goto (-16), 3) := by decide +kernel
theorem dX5_begin_85 : decode cX5_begin 85 = .ok (.return_, 1) := by decide +kernel
theorem dX5_end_0 : decode cX5_end 0 = .ok (.aload_n 0, 1) := by decide +kernel
theorem dX5_end_1 : decode cX5_end 1 = .ok (.iconst 0, 1) := by decide +kernel
theorem dX5_end_2 : decode cX5_end 2 = .ok (.putfield 29, 3) := by decide +kernel
theorem dX5_end_5 : decode cX5_end 5 = .ok (.return_, 1) := by decide +kernel
theorem dX5_go_0 : decode cX5_go 0 = .ok (.aload_n 0, 1) := by decide +kernel
theorem dX5_go_1 : decode cX5_go 1 = .ok (.getfield 49, 3) := by decide +kernel
theorem dX5_go_4 : decode cX5_go 4 = .ok (.istore_n 2, 1) := by decide +kernel
theorem dX5_go_5 : decode cX5_go 5 = .ok (.iconst 0, 1) := by decide +kernel
theorem dX5_go_6 : decode cX5_go 6 = .ok (.istore_n 3, 1) := by decide +kernel
theorem dX5_go_7 : decode cX5_go 7 = .ok (.iload_n 3, 1) := by decide +kernel
theorem dX5_go_8 : decode cX5_go 8 = .ok (.iload_n 1, 1) := by decide +kernel
theorem dX5_go_9 : decode cX5_go 9 = .ok (.if_icmp .ge 54, 3) := by decide +kernel
theorem dX5_go_12 : decode cX5_go 12 = .ok (.aload_n 0, 1) := by decide +kernel
theorem dX5_go_13 : decode cX5_go 13 = .ok (.getfield 33, 3) := by decide +kernel
theorem dX5_go_16 : decode cX5_go 16 = .ok (.ifCond .ne 47, 3) := by decide +kernel
theorem dX5_go_19 : decode cX5_go 19 = .ok (.aload_n 0, 1) := by decide +kernel
theorem dX5_go_20 : decode cX5_go 20 = .ok (.getfield 21, 3) := by decide +kernel
theorem dX5_go_23 : decode cX5_go 23 = .ok (.getfield 73, 3) := by decide +kernel
theorem dX5_go_26 : decode cX5_go 26 = .ok (.aload_n 0, 1) := by decide +kernel
theorem dX5_go_27 : decode cX5_go 27 = .ok (.getfield 42, 3) := by decide +kernel
theorem dX5_go_30 : decode cX5_go 30 = .ok (.iaload, 1) := by decide +kernel
theorem dX5_go_31 : decode cX5_go 31 = .ok (.bipush 6, 2) := by decide +kernel
theorem dX5_go_33 : decode cX5_go 33 = .ok (.if_icmp .ne 20, 3) := by decide +kernel
theorem dX5_go_36 : decode cX5_go 36 = .ok (.aload_n 0, 1) := by decide +kernel
theorem dX5_go_37 : decode cX5_go 37 = .ok (.getfield 52, 3) := by decide +kernel
theorem dX5_go_40 : decode cX5_go 40 = .ok (.bipush 12, 2) := by decide +kernel
theorem dX5_go_42 : decode cX5_go 42 = .ok (.if_icmp .ne 11, 3) := by decide +kernel
theorem dX5_go_45 : decode cX5_go 45 = .ok (.aload_n 0, 1) := by decide +kernel
theorem dX5_go_46 : decode cX5_go 46 = .ok (.iconst 1, 1) := by decide +kernel
theorem dX5_go_47 : decode cX5_go 47 = .ok (.putfield 33, 3) := by decide +kernel
theorem dX5_go_50 : decode cX5_go 50 = .ok (.goto 7, 3) := by decide +kernel
theorem dX5_go_53 : decode cX5_go 53 = .ok (.aload_n 0, 1) := by decide +kernel
theorem dX5_go_54 : decode cX5_go 54 = .ok (.invokevirtual 78, 3) := by decide +kernel
theorem dX5_go_57 : decode cX5_go 57 = .ok (.iinc 3 1, 3) := by decide +kernel
theorem dX5_go_60 : decode cX5_go 60 = .ok (.goto (-53), 3) := by decide +kernel
theorem dX5_go_63 : decode cX5_go 63 = .ok (.aload_n 0, 1) := by decide +kernel
theorem dX5_go_64 : decode cX5_go 64 = .ok (.getfield 49, 3) := by decide +kernel
theorem dX5_go_67 : decode cX5_go 67 = .ok (.iload_n 2, 1) := by decide +kernel
theorem dX5_go_68 : decode cX5_go 68 = .ok (.isub, 1) := by decide +kernel
theorem dX5_go_69 : decode cX5_go 69 = .ok (.ireturn, 1) := by decide +kernel
theorem dX5_takeStep_0 : decode cX5_takeStep 0 = .ok (.aload_n 0, 1) := by decide +kernel
theorem dX5_takeStep_1 : decode cX5_takeStep 1 = .ok (.getfield 36, 3) := by decide +kernel
theorem dX5_takeStep_4 : decode cX5_takeStep 4 = .ok (.ifCond .eq 18, 3) := by decide +kernel
theorem dX5_takeStep_7 : decode cX5_takeStep 7 = .ok (.aload_n 0, 1) := by decide +kernel
theorem dX5_takeStep_8 : decode cX5_takeStep 8 = .ok (.aload_n 0, 1) := by decide +kernel
theorem dX5_takeStep_9 : decode cX5_takeStep 9 = .ok (.getfield 25, 3) := by decide +kernel
theorem dX5_takeStep_12 : decode cX5_takeStep 12 = .ok (.aload_n 0, 1) := by decide +kernel
theorem dX5_takeStep_13 : decode cX5_takeStep 13 = .ok (.getfield 42, 3) := by decide +kernel
theorem dX5_takeStep_16 : decode cX5_takeStep 16 = .ok (.invokevirtual 81, 3) := by decide +kernel
theorem dX5_takeStep_19 : decode cX5_takeStep 19 = .ok (.invokevirtual 87, 3) := by decide +kernel
theorem dX5_takeStep_22 : decode cX5_takeStep 22 = .ok (.aload_n 0, 1) := by decide +kernel
theorem dX5_takeStep_23 : decode cX5_takeStep 23 = .ok (.getfield 21, 3) := by decide +kernel
theorem dX5_takeStep_26 : decode cX5_takeStep 26 = .ok (.getfield 73, 3) := by decide +kernel
theorem dX5_takeStep_29 : decode cX5_takeStep 29 = .ok (.aload_n 0, 1) := by decide +kernel
theorem dX5_takeStep_30 : decode cX5_takeStep 30 = .ok (.getfield 42, 3) := by decide +kernel
theorem dX5_takeStep_33 : decode cX5_takeStep 33 = .ok (.iaload, 1) := by decide +kernel
theorem dX5_takeStep_34 : decode cX5_takeStep 34 = .ok (.istore_n 1, 1) := by decide +kernel
theorem dX5_takeStep_35 : decode cX5_takeStep 35 = .ok (.aload_n 0, 1) := by decide +kernel
theorem dX5_takeStep_36 : decode cX5_takeStep 36 = .ok (.getfield 21, 3) := by decide +kernel
theorem dX5_takeStep_39 : decode cX5_takeStep 39 = .ok (.getfield 91, 3) := by decide +kernel
theorem dX5_takeStep_42 : decode cX5_takeStep 42 = .ok (.aload_n 0, 1) := by decide +kernel
theorem dX5_takeStep_43 : decode cX5_takeStep 43 = .ok (.getfield 42, 3) := by decide +kernel
theorem dX5_takeStep_46 : decode cX5_takeStep 46 = .ok (.iaload, 1) := by decide +kernel
theorem dX5_takeStep_47 : decode cX5_takeStep 47 = .ok (.istore_n 2, 1) := by decide +kernel
theorem dX5_takeStep_48 : decode cX5_takeStep 48 = .ok (.aload_n 0, 1) := by decide +kernel
theorem dX5_takeStep_49 : decode cX5_takeStep 49 = .ok (.dup, 1) := by decide +kernel
theorem dX5_takeStep_50 : decode cX5_takeStep 50 = .ok (.getfield 49, 3) := by decide +kernel
theorem dX5_takeStep_53 : decode cX5_takeStep 53 = .ok (.iconst 1, 1) := by decide +kernel
theorem dX5_takeStep_54 : decode cX5_takeStep 54 = .ok (.iadd, 1) := by decide +kernel
theorem dX5_takeStep_55 : decode cX5_takeStep 55 = .ok (.putfield 49, 3) := by decide +kernel
theorem dX5_takeStep_58 : decode cX5_takeStep 58 = .ok (.aload_n 0, 1) := by decide +kernel
theorem dX5_takeStep_59 : decode cX5_takeStep 59 = .ok (.dup, 1) := by decide +kernel
theorem dX5_takeStep_60 : decode cX5_takeStep 60 = .ok (.getfield 42, 3) := by decide +kernel
theorem dX5_takeStep_63 : decode cX5_takeStep 63 = .ok (.iconst 1, 1) := by decide +kernel
theorem dX5_takeStep_64 : decode cX5_takeStep 64 = .ok (.iadd, 1) := by decide +kernel
theorem dX5_takeStep_65 : decode cX5_takeStep 65 = .ok (.putfield 42, 3) := by decide +kernel
theorem dX5_takeStep_68 : decode cX5_takeStep 68 = .ok (.iload_n 1, 1) := by decide +kernel
theorem dX5_takeStep_69 : decode cX5_takeStep 69 = .ok (.invokestatic 94, 3) := by decide +kernel
theorem dX5_takeStep_72 : decode cX5_takeStep 72 = .ok (.ifCond .eq 12, 3) := by decide +kernel
theorem dX5_takeStep_75 : decode cX5_takeStep 75 = .ok (.aload_n 0, 1) := by decide +kernel
theorem dX5_takeStep_76 : decode cX5_takeStep 76 = .ok (.iload_n 1, 1) := by decide +kernel
theorem dX5_takeStep_77 : decode cX5_takeStep 77 = .ok (.iload_n 2, 1) := by decide +kernel
theorem dX5_takeStep_78 : decode cX5_takeStep 78 = .ok (.invokevirtual 98, 3) := by decide +kernel
theorem dX5_takeStep_81 : decode cX5_takeStep 81 = .ok (.goto 9, 3) := by decide +kernel
theorem dX5_takeStep_84 : decode cX5_takeStep 84 = .ok (.aload_n 0, 1) := by decide +kernel
theorem dX5_takeStep_85 : decode cX5_takeStep 85 = .ok (.iload_n 1, 1) := by decide +kernel
theorem dX5_takeStep_86 : decode cX5_takeStep 86 = .ok (.iload_n 2, 1) := by decide +kernel
theorem dX5_takeStep_87 : decode cX5_takeStep 87 = .ok (.invokevirtual 102, 3) := by decide +kernel
theorem dX5_takeStep_90 : decode cX5_takeStep 90 = .ok (.aload_n 0, 1) := by decide +kernel
theorem dX5_takeStep_91 : decode cX5_takeStep 91 = .ok (.getfield 21, 3) := by decide +kernel
theorem dX5_takeStep_94 : decode cX5_takeStep 94 = .ok (.aload_n 0, 1) := by decide +kernel
theorem dX5_takeStep_95 : decode cX5_takeStep 95 = .ok (.getfield 42, 3) := by decide +kernel
theorem dX5_takeStep_98 : decode cX5_takeStep 98 = .ok (.invokevirtual 105, 3) := by decide +kernel
theorem dX5_takeStep_101 : decode cX5_takeStep 101 = .ok (.ifCond .ne 8, 3) := by decide +kernel
theorem dX5_takeStep_104 : decode cX5_takeStep 104 = .ok (.aload_n 0, 1) := by decide +kernel
theorem dX5_takeStep_105 : decode cX5_takeStep 105 = .ok (.iconst 1, 1) := by decide +kernel
theorem dX5_takeStep_106 : decode cX5_takeStep 106 = .ok (.putfield 33, 3) := by decide +kernel
theorem dX5_takeStep_109 : decode cX5_takeStep 109 = .ok (.return_, 1) := by decide +kernel
theorem dX5_work_0 : decode cX5_work 0 = .ok (.iload_n 1, 1) := by decide +kernel
theorem dX5_work_1 : decode cX5_work 1 = .ok (.tableswitch 131 0 5 #[39, 55, 71, 84, 97, 110], 39) := by decide +kernel
theorem dX5_work_40 : decode cX5_work 40 = .ok (.aload_n 0, 1) := by decide +kernel
theorem dX5_work_41 : decode cX5_work 41 = .ok (.aload_n 0, 1) := by decide +kernel
theorem dX5_work_42 : decode cX5_work 42 = .ok (.getfield 46, 3) := by decide +kernel
theorem dX5_work_45 : decode cX5_work 45 = .ok (.iload_n 2, 1) := by decide +kernel
theorem dX5_work_46 : decode cX5_work 46 = .ok (.iadd, 1) := by decide +kernel
theorem dX5_work_47 : decode cX5_work 47 = .ok (.ldc 108, 2) := by decide +kernel
theorem dX5_work_49 : decode cX5_work 49 = .ok (.iand, 1) := by decide +kernel
theorem dX5_work_50 : decode cX5_work 50 = .ok (.putfield 46, 3) := by decide +kernel
theorem dX5_work_53 : decode cX5_work 53 = .ok (.goto 92, 3) := by decide +kernel
theorem dX5_work_56 : decode cX5_work 56 = .ok (.aload_n 0, 1) := by decide +kernel
theorem dX5_work_57 : decode cX5_work 57 = .ok (.aload_n 0, 1) := by decide +kernel
theorem dX5_work_58 : decode cX5_work 58 = .ok (.getfield 46, 3) := by decide +kernel
theorem dX5_work_61 : decode cX5_work 61 = .ok (.iload_n 2, 1) := by decide +kernel
theorem dX5_work_62 : decode cX5_work 62 = .ok (.imul, 1) := by decide +kernel
theorem dX5_work_63 : decode cX5_work 63 = .ok (.ldc 108, 2) := by decide +kernel
theorem dX5_work_65 : decode cX5_work 65 = .ok (.iand, 1) := by decide +kernel
theorem dX5_work_66 : decode cX5_work 66 = .ok (.putfield 46, 3) := by decide +kernel
theorem dX5_work_69 : decode cX5_work 69 = .ok (.goto 76, 3) := by decide +kernel
theorem dX5_work_72 : decode cX5_work 72 = .ok (.aload_n 0, 1) := by decide +kernel
theorem dX5_work_73 : decode cX5_work 73 = .ok (.aload_n 0, 1) := by decide +kernel
theorem dX5_work_74 : decode cX5_work 74 = .ok (.getfield 46, 3) := by decide +kernel
theorem dX5_work_77 : decode cX5_work 77 = .ok (.iload_n 2, 1) := by decide +kernel
theorem dX5_work_78 : decode cX5_work 78 = .ok (.ixor, 1) := by decide +kernel
theorem dX5_work_79 : decode cX5_work 79 = .ok (.putfield 46, 3) := by decide +kernel
theorem dX5_work_82 : decode cX5_work 82 = .ok (.goto 63, 3) := by decide +kernel
theorem dX5_work_85 : decode cX5_work 85 = .ok (.aload_n 0, 1) := by decide +kernel
theorem dX5_work_86 : decode cX5_work 86 = .ok (.getfield 9, 3) := by decide +kernel
theorem dX5_work_89 : decode cX5_work 89 = .ok (.iload_n 2, 1) := by decide +kernel
theorem dX5_work_90 : decode cX5_work 90 = .ok (.aload_n 0, 1) := by decide +kernel
theorem dX5_work_91 : decode cX5_work 91 = .ok (.getfield 46, 3) := by decide +kernel
theorem dX5_work_94 : decode cX5_work 94 = .ok (.iastore, 1) := by decide +kernel
theorem dX5_work_95 : decode cX5_work 95 = .ok (.goto 50, 3) := by decide +kernel
theorem dX5_work_98 : decode cX5_work 98 = .ok (.aload_n 0, 1) := by decide +kernel
theorem dX5_work_99 : decode cX5_work 99 = .ok (.aload_n 0, 1) := by decide +kernel
theorem dX5_work_100 : decode cX5_work 100 = .ok (.getfield 9, 3) := by decide +kernel
theorem dX5_work_103 : decode cX5_work 103 = .ok (.iload_n 2, 1) := by decide +kernel
theorem dX5_work_104 : decode cX5_work 104 = .ok (.iaload, 1) := by decide +kernel
theorem dX5_work_105 : decode cX5_work 105 = .ok (.putfield 46, 3) := by decide +kernel
theorem dX5_work_108 : decode cX5_work 108 = .ok (.goto 37, 3) := by decide +kernel
theorem dX5_work_111 : decode cX5_work 111 = .ok (.aload_n 0, 1) := by decide +kernel
theorem dX5_work_112 : decode cX5_work 112 = .ok (.aload_n 0, 1) := by decide +kernel
theorem dX5_work_113 : decode cX5_work 113 = .ok (.getfield 46, 3) := by decide +kernel
theorem dX5_work_116 : decode cX5_work 116 = .ok (.aload_n 0, 1) := by decide +kernel
theorem dX5_work_117 : decode cX5_work 117 = .ok (.getfield 9, 3) := by decide +kernel
theorem dX5_work_120 : decode cX5_work 120 = .ok (.iload_n 2, 1) := by decide +kernel
theorem dX5_work_121 : decode cX5_work 121 = .ok (.iaload, 1) := by decide +kernel
theorem dX5_work_122 : decode cX5_work 122 = .ok (.iadd, 1) := by decide +kernel
theorem dX5_work_123 : decode cX5_work 123 = .ok (.ldc 108, 2) := by decide +kernel
theorem dX5_work_125 : decode cX5_work 125 = .ok (.iand, 1) := by decide +kernel
theorem dX5_work_126 : decode cX5_work 126 = .ok (.putfield 46, 3) := by decide +kernel
theorem dX5_work_129 : decode cX5_work 129 = .ok (.goto 16, 3) := by decide +kernel
theorem dX5_work_132 : decode cX5_work 132 = .ok (.aload_n 0, 1) := by decide +kernel
theorem dX5_work_133 : decode cX5_work 133 = .ok (.aload_n 0, 1) := by decide +kernel
theorem dX5_work_134 : decode cX5_work 134 = .ok (.getfield 46, 3) := by decide +kernel
theorem dX5_work_137 : decode cX5_work 137 = .ok (.iload_n 2, 1) := by decide +kernel
theorem dX5_work_138 : decode cX5_work 138 = .ok (.iadd, 1) := by decide +kernel
theorem dX5_work_139 : decode cX5_work 139 = .ok (.ldc 108, 2) := by decide +kernel
theorem dX5_work_141 : decode cX5_work 141 = .ok (.iand, 1) := by decide +kernel
theorem dX5_work_142 : decode cX5_work 142 = .ok (.invokevirtual 109, 3) := by decide +kernel
theorem dX5_work_145 : decode cX5_work 145 = .ok (.return_, 1) := by decide +kernel
theorem dX5_tellOut_0 : decode cX5_tellOut 0 = .ok (.aload_n 0, 1) := by decide +kernel
theorem dX5_tellOut_1 : decode cX5_tellOut 1 = .ok (.getfield 52, 3) := by decide +kernel
theorem dX5_tellOut_4 : decode cX5_tellOut 4 = .ok (.bipush 12, 2) := by decide +kernel
theorem dX5_tellOut_6 : decode cX5_tellOut 6 = .ok (.if_icmp .ge 23, 3) := by decide +kernel
theorem dX5_tellOut_9 : decode cX5_tellOut 9 = .ok (.aload_n 0, 1) := by decide +kernel
theorem dX5_tellOut_10 : decode cX5_tellOut 10 = .ok (.getfield 15, 3) := by decide +kernel
theorem dX5_tellOut_13 : decode cX5_tellOut 13 = .ok (.aload_n 0, 1) := by decide +kernel
theorem dX5_tellOut_14 : decode cX5_tellOut 14 = .ok (.getfield 52, 3) := by decide +kernel
theorem dX5_tellOut_17 : decode cX5_tellOut 17 = .ok (.iload_n 1, 1) := by decide +kernel
theorem dX5_tellOut_18 : decode cX5_tellOut 18 = .ok (.iastore, 1) := by decide +kernel
theorem dX5_tellOut_19 : decode cX5_tellOut 19 = .ok (.aload_n 0, 1) := by decide +kernel
theorem dX5_tellOut_20 : decode cX5_tellOut 20 = .ok (.dup, 1) := by decide +kernel
theorem dX5_tellOut_21 : decode cX5_tellOut 21 = .ok (.getfield 52, 3) := by decide +kernel
theorem dX5_tellOut_24 : decode cX5_tellOut 24 = .ok (.iconst 1, 1) := by decide +kernel
theorem dX5_tellOut_25 : decode cX5_tellOut 25 = .ok (.iadd, 1) := by decide +kernel
theorem dX5_tellOut_26 : decode cX5_tellOut 26 = .ok (.putfield 52, 3) := by decide +kernel
theorem dX5_tellOut_29 : decode cX5_tellOut 29 = .ok (.return_, 1) := by decide +kernel
theorem dX5_turn_0 : decode cX5_turn 0 = .ok (.iload_n 1, 1) := by decide +kernel
theorem dX5_turn_1 : decode cX5_turn 1 = .ok (.tableswitch 80 7 10 #[31, 39, 61, 73], 31) := by decide +kernel
theorem dX5_turn_32 : decode cX5_turn 32 = .ok (.aload_n 0, 1) := by decide +kernel
theorem dX5_turn_33 : decode cX5_turn 33 = .ok (.iload_n 2, 1) := by decide +kernel
theorem dX5_turn_34 : decode cX5_turn 34 = .ok (.putfield 42, 3) := by decide +kernel
theorem dX5_turn_37 : decode cX5_turn 37 = .ok (.goto 49, 3) := by decide +kernel
theorem dX5_turn_40 : decode cX5_turn 40 = .ok (.aload_n 0, 1) := by decide +kernel
theorem dX5_turn_41 : decode cX5_turn 41 = .ok (.aload_n 0, 1) := by decide +kernel
theorem dX5_turn_42 : decode cX5_turn 42 = .ok (.getfield 46, 3) := by decide +kernel
theorem dX5_turn_45 : decode cX5_turn 45 = .ok (.ifCond .ne 7, 3) := by decide +kernel
theorem dX5_turn_48 : decode cX5_turn 48 = .ok (.iload_n 2, 1) := by decide +kernel
theorem dX5_turn_49 : decode cX5_turn 49 = .ok (.goto 7, 3) := by decide +kernel
theorem dX5_turn_52 : decode cX5_turn 52 = .ok (.aload_n 0, 1) := by decide +kernel
theorem dX5_turn_53 : decode cX5_turn 53 = .ok (.getfield 42, 3) := by decide +kernel
theorem dX5_turn_56 : decode cX5_turn 56 = .ok (.putfield 42, 3) := by decide +kernel
theorem dX5_turn_59 : decode cX5_turn 59 = .ok (.goto 27, 3) := by decide +kernel
theorem dX5_turn_62 : decode cX5_turn 62 = .ok (.aload_n 0, 1) := by decide +kernel
theorem dX5_turn_63 : decode cX5_turn 63 = .ok (.aload_n 0, 1) := by decide +kernel
theorem dX5_turn_64 : decode cX5_turn 64 = .ok (.iload_n 2, 1) := by decide +kernel
theorem dX5_turn_65 : decode cX5_turn 65 = .ok (.invokevirtual 112, 3) := by decide +kernel
theorem dX5_turn_68 : decode cX5_turn 68 = .ok (.putfield 46, 3) := by decide +kernel
theorem dX5_turn_71 : decode cX5_turn 71 = .ok (.goto 15, 3) := by decide +kernel
theorem dX5_turn_74 : decode cX5_turn 74 = .ok (.aload_n 0, 1) := by decide +kernel
theorem dX5_turn_75 : decode cX5_turn 75 = .ok (.invokevirtual 115, 3) := by decide +kernel
theorem dX5_turn_78 : decode cX5_turn 78 = .ok (.goto 8, 3) := by decide +kernel
theorem dX5_turn_81 : decode cX5_turn 81 = .ok (.aload_n 0, 1) := by decide +kernel
theorem dX5_turn_82 : decode cX5_turn 82 = .ok (.iconst 1, 1) := by decide +kernel
theorem dX5_turn_83 : decode cX5_turn 83 = .ok (.putfield 33, 3) := by decide +kernel
theorem dX5_turn_86 : decode cX5_turn 86 = .ok (.return_, 1) := by decide +kernel
theorem dX5_addressOf_0 : decode cX5_addressOf 0 = .ok (.aload_n 0, 1) := by decide +kernel
theorem dX5_addressOf_1 : decode cX5_addressOf 1 = .ok (.getfield 36, 3) := by decide +kernel
theorem dX5_addressOf_4 : decode cX5_addressOf 4 = .ok (.ifCond .eq 26, 3) := by decide +kernel
theorem dX5_addressOf_7 : decode cX5_addressOf 7 = .ok (.aload_n 0, 1) := by decide +kernel
theorem dX5_addressOf_8 : decode cX5_addressOf 8 = .ok (.getfield 21, 3) := by decide +kernel
theorem dX5_addressOf_11 : decode cX5_addressOf 11 = .ok (.iload_n 1, 1) := by decide +kernel
theorem dX5_addressOf_12 : decode cX5_addressOf 12 = .ok (.invokevirtual 105, 3) := by decide +kernel
theorem dX5_addressOf_15 : decode cX5_addressOf 15 = .ok (.ifCond .eq 15, 3) := by decide +kernel
theorem dX5_addressOf_18 : decode cX5_addressOf 18 = .ok (.aload_n 0, 1) := by decide +kernel
theorem dX5_addressOf_19 : decode cX5_addressOf 19 = .ok (.getfield 25, 3) := by decide +kernel
theorem dX5_addressOf_22 : decode cX5_addressOf 22 = .ok (.getfield 118, 3) := by decide +kernel
theorem dX5_addressOf_25 : decode cX5_addressOf 25 = .ok (.iload_n 1, 1) := by decide +kernel
theorem dX5_addressOf_26 : decode cX5_addressOf 26 = .ok (.iaload, 1) := by decide +kernel
theorem dX5_addressOf_27 : decode cX5_addressOf 27 = .ok (.goto 4, 3) := by decide +kernel
theorem dX5_addressOf_30 : decode cX5_addressOf 30 = .ok (.iload_n 1, 1) := by decide +kernel
theorem dX5_addressOf_31 : decode cX5_addressOf 31 = .ok (.ireturn, 1) := by decide +kernel
theorem dX5_jumpBySum_0 : decode cX5_jumpBySum 0 = .ok (.iconst 0, 1) := by decide +kernel
theorem dX5_jumpBySum_1 : decode cX5_jumpBySum 1 = .ok (.istore_n 1, 1) := by decide +kernel
theorem dX5_jumpBySum_2 : decode cX5_jumpBySum 2 = .ok (.iload_n 1, 1) := by decide +kernel
theorem dX5_jumpBySum_3 : decode cX5_jumpBySum 3 = .ok (.aload_n 0, 1) := by decide +kernel
theorem dX5_jumpBySum_4 : decode cX5_jumpBySum 4 = .ok (.getfield 21, 3) := by decide +kernel
theorem dX5_jumpBySum_7 : decode cX5_jumpBySum 7 = .ok (.getfield 121, 3) := by decide +kernel
theorem dX5_jumpBySum_10 : decode cX5_jumpBySum 10 = .ok (.if_icmp .ge 57, 3) := by decide +kernel
theorem dX5_jumpBySum_13 : decode cX5_jumpBySum 13 = .ok (.aload_n 0, 1) := by decide +kernel
theorem dX5_jumpBySum_14 : decode cX5_jumpBySum 14 = .ok (.getfield 21, 3) := by decide +kernel
theorem dX5_jumpBySum_17 : decode cX5_jumpBySum 17 = .ok (.getfield 73, 3) := by decide +kernel
theorem dX5_jumpBySum_20 : decode cX5_jumpBySum 20 = .ok (.iload_n 1, 1) := by decide +kernel
theorem dX5_jumpBySum_21 : decode cX5_jumpBySum 21 = .ok (.iaload, 1) := by decide +kernel
theorem dX5_jumpBySum_22 : decode cX5_jumpBySum 22 = .ok (.bipush 9, 2) := by decide +kernel
theorem dX5_jumpBySum_24 : decode cX5_jumpBySum 24 = .ok (.if_icmp .ne 37, 3) := by decide +kernel
theorem dX5_jumpBySum_27 : decode cX5_jumpBySum 27 = .ok (.aload_n 0, 1) := by decide +kernel
theorem dX5_jumpBySum_28 : decode cX5_jumpBySum 28 = .ok (.aload_n 0, 1) := by decide +kernel
theorem dX5_jumpBySum_29 : decode cX5_jumpBySum 29 = .ok (.getfield 21, 3) := by decide +kernel
theorem dX5_jumpBySum_32 : decode cX5_jumpBySum 32 = .ok (.getfield 91, 3) := by decide +kernel
theorem dX5_jumpBySum_35 : decode cX5_jumpBySum 35 = .ok (.iload_n 1, 1) := by decide +kernel
theorem dX5_jumpBySum_36 : decode cX5_jumpBySum 36 = .ok (.iaload, 1) := by decide +kernel
theorem dX5_jumpBySum_37 : decode cX5_jumpBySum 37 = .ok (.invokevirtual 112, 3) := by decide +kernel
theorem dX5_jumpBySum_40 : decode cX5_jumpBySum 40 = .ok (.aload_n 0, 1) := by decide +kernel
theorem dX5_jumpBySum_41 : decode cX5_jumpBySum 41 = .ok (.getfield 46, 3) := by decide +kernel
theorem dX5_jumpBySum_44 : decode cX5_jumpBySum 44 = .ok (.if_icmp .ne 17, 3) := by decide +kernel
theorem dX5_jumpBySum_47 : decode cX5_jumpBySum 47 = .ok (.aload_n 0, 1) := by decide +kernel
theorem dX5_jumpBySum_48 : decode cX5_jumpBySum 48 = .ok (.aload_n 0, 1) := by decide +kernel
theorem dX5_jumpBySum_49 : decode cX5_jumpBySum 49 = .ok (.getfield 21, 3) := by decide +kernel
theorem dX5_jumpBySum_52 : decode cX5_jumpBySum 52 = .ok (.getfield 91, 3) := by decide +kernel
theorem dX5_jumpBySum_55 : decode cX5_jumpBySum 55 = .ok (.iload_n 1, 1) := by decide +kernel
theorem dX5_jumpBySum_56 : decode cX5_jumpBySum 56 = .ok (.iaload, 1) := by decide +kernel
theorem dX5_jumpBySum_57 : decode cX5_jumpBySum 57 = .ok (.putfield 42, 3) := by decide +kernel
theorem dX5_jumpBySum_60 : decode cX5_jumpBySum 60 = .ok (.return_, 1) := by decide +kernel
theorem dX5_jumpBySum_61 : decode cX5_jumpBySum 61 = .ok (.iinc 1 1, 3) := by decide +kernel
theorem dX5_jumpBySum_64 : decode cX5_jumpBySum 64 = .ok (.goto (-62), 3) := by decide +kernel
theorem dX5_jumpBySum_67 : decode cX5_jumpBySum 67 = .ok (.aload_n 0, 1) := by decide +kernel
theorem dX5_jumpBySum_68 : decode cX5_jumpBySum 68 = .ok (.iconst 1, 1) := by decide +kernel
theorem dX5_jumpBySum_69 : decode cX5_jumpBySum 69 = .ok (.putfield 39, 3) := by decide +kernel
theorem dX5_jumpBySum_72 : decode cX5_jumpBySum 72 = .ok (.aload_n 0, 1) := by decide +kernel
theorem dX5_jumpBySum_73 : decode cX5_jumpBySum 73 = .ok (.iconst 1, 1) := by decide +kernel
theorem dX5_jumpBySum_74 : decode cX5_jumpBySum 74 = .ok (.putfield 33, 3) := by decide +kernel
theorem dX5_jumpBySum_77 : decode cX5_jumpBySum 77 = .ok (.return_, 1) := by decide +kernel
theorem dX5_useLine_0 : decode cX5_useLine 0 = .ok (.aload_n 0, 1) := by decide +kernel
theorem dX5_useLine_1 : decode cX5_useLine 1 = .ok (.iload_n 1, 1) := by decide +kernel
theorem dX5_useLine_2 : decode cX5_useLine 2 = .ok (.invokevirtual 124, 3) := by decide +kernel
theorem dX5_useLine_5 : decode cX5_useLine 5 = .ok (.istore_n 2, 1) := by decide +kernel
theorem dX5_useLine_6 : decode cX5_useLine 6 = .ok (.iload_n 2, 1) := by decide +kernel
theorem dX5_useLine_7 : decode cX5_useLine 7 = .ok (.ifCond .ge 54, 3) := by decide +kernel
theorem dX5_useLine_10 : decode cX5_useLine 10 = .ok (.aload_n 0, 1) := by decide +kernel
theorem dX5_useLine_11 : decode cX5_useLine 11 = .ok (.dup, 1) := by decide +kernel
theorem dX5_useLine_12 : decode cX5_useLine 12 = .ok (.getfield 67, 3) := by decide +kernel
theorem dX5_useLine_15 : decode cX5_useLine 15 = .ok (.iconst 1, 1) := by decide +kernel
theorem dX5_useLine_16 : decode cX5_useLine 16 = .ok (.iadd, 1) := by decide +kernel
theorem dX5_useLine_17 : decode cX5_useLine 17 = .ok (.putfield 67, 3) := by decide +kernel
theorem dX5_useLine_20 : decode cX5_useLine 20 = .ok (.aload_n 0, 1) := by decide +kernel
theorem dX5_useLine_21 : decode cX5_useLine 21 = .ok (.dup, 1) := by decide +kernel
theorem dX5_useLine_22 : decode cX5_useLine 22 = .ok (.getfield 70, 3) := by decide +kernel
theorem dX5_useLine_25 : decode cX5_useLine 25 = .ok (.aload_n 0, 1) := by decide +kernel
theorem dX5_useLine_26 : decode cX5_useLine 26 = .ok (.getfield 25, 3) := by decide +kernel
theorem dX5_useLine_29 : decode cX5_useLine 29 = .ok (.iload_n 1, 1) := by decide +kernel
theorem dX5_useLine_30 : decode cX5_useLine 30 = .ok (.invokevirtual 127, 3) := by decide +kernel
theorem dX5_useLine_33 : decode cX5_useLine 33 = .ok (.iadd, 1) := by decide +kernel
theorem dX5_useLine_34 : decode cX5_useLine 34 = .ok (.putfield 70, 3) := by decide +kernel
theorem dX5_useLine_37 : decode cX5_useLine 37 = .ok (.aload_n 0, 1) := by decide +kernel
theorem dX5_useLine_38 : decode cX5_useLine 38 = .ok (.aload_n 0, 1) := by decide +kernel
theorem dX5_useLine_39 : decode cX5_useLine 39 = .ok (.getfield 64, 3) := by decide +kernel
theorem dX5_useLine_42 : decode cX5_useLine 42 = .ok (.iconst 1, 1) := by decide +kernel
theorem dX5_useLine_43 : decode cX5_useLine 43 = .ok (.iadd, 1) := by decide +kernel
theorem dX5_useLine_44 : decode cX5_useLine 44 = .ok (.aload_n 0, 1) := by decide +kernel
theorem dX5_useLine_45 : decode cX5_useLine 45 = .ok (.getfield 61, 3) := by decide +kernel
theorem dX5_useLine_48 : decode cX5_useLine 48 = .ok (.invokestatic 55, 3) := by decide +kernel
theorem dX5_useLine_51 : decode cX5_useLine 51 = .ok (.putfield 64, 3) := by decide +kernel
theorem dX5_useLine_54 : decode cX5_useLine 54 = .ok (.aload_n 0, 1) := by decide +kernel
theorem dX5_useLine_55 : decode cX5_useLine 55 = .ok (.getfield 64, 3) := by decide +kernel
theorem dX5_useLine_58 : decode cX5_useLine 58 = .ok (.iconst 1, 1) := by decide +kernel
theorem dX5_useLine_59 : decode cX5_useLine 59 = .ok (.isub, 1) := by decide +kernel
theorem dX5_useLine_60 : decode cX5_useLine 60 = .ok (.istore_n 2, 1) := by decide +kernel
theorem dX5_useLine_61 : decode cX5_useLine 61 = .ok (.iload_n 2, 1) := by decide +kernel
theorem dX5_useLine_62 : decode cX5_useLine 62 = .ok (.istore_n 3, 1) := by decide +kernel
theorem dX5_useLine_63 : decode cX5_useLine 63 = .ok (.iload_n 3, 1) := by decide +kernel
theorem dX5_useLine_64 : decode cX5_useLine 64 = .ok (.ifCond .le 23, 3) := by decide +kernel
theorem dX5_useLine_67 : decode cX5_useLine 67 = .ok (.aload_n 0, 1) := by decide +kernel
theorem dX5_useLine_68 : decode cX5_useLine 68 = .ok (.getfield 18, 3) := by decide +kernel
theorem dX5_useLine_71 : decode cX5_useLine 71 = .ok (.iload_n 3, 1) := by decide +kernel
theorem dX5_useLine_72 : decode cX5_useLine 72 = .ok (.aload_n 0, 1) := by decide +kernel
theorem dX5_useLine_73 : decode cX5_useLine 73 = .ok (.getfield 18, 3) := by decide +kernel
theorem dX5_useLine_76 : decode cX5_useLine 76 = .ok (.iload_n 3, 1) := by decide +kernel
theorem dX5_useLine_77 : decode cX5_useLine 77 = .ok (.iconst 1, 1) := by decide +kernel
theorem dX5_useLine_78 : decode cX5_useLine 78 = .ok (.isub, 1) := by decide +kernel
theorem dX5_useLine_79 : decode cX5_useLine 79 = .ok (.iaload, 1) := by decide +kernel
theorem dX5_useLine_80 : decode cX5_useLine 80 = .ok (.iastore, 1) := by decide +kernel
theorem dX5_useLine_81 : decode cX5_useLine 81 = .ok (.iinc 3 (-1), 3) := by decide +kernel
theorem dX5_useLine_84 : decode cX5_useLine 84 = .ok (.goto (-21), 3) := by decide +kernel
theorem dX5_useLine_87 : decode cX5_useLine 87 = .ok (.aload_n 0, 1) := by decide +kernel
theorem dX5_useLine_88 : decode cX5_useLine 88 = .ok (.getfield 18, 3) := by decide +kernel
theorem dX5_useLine_91 : decode cX5_useLine 91 = .ok (.iconst 0, 1) := by decide +kernel
theorem dX5_useLine_92 : decode cX5_useLine 92 = .ok (.iload_n 1, 1) := by decide +kernel
theorem dX5_useLine_93 : decode cX5_useLine 93 = .ok (.iastore, 1) := by decide +kernel
theorem dX5_useLine_94 : decode cX5_useLine 94 = .ok (.return_, 1) := by decide +kernel
theorem dX5_placeOf_0 : decode cX5_placeOf 0 = .ok (.iconst 0, 1) := by decide +kernel
theorem dX5_placeOf_1 : decode cX5_placeOf 1 = .ok (.istore_n 2, 1) := by decide +kernel
end
section
theorem dX5_placeOf_2 : decode cX5_placeOf 2 = .ok (.iload_n 2, 1) := by decide +kernel
theorem dX5_placeOf_3 : decode cX5_placeOf 3 = .ok (.aload_n 0, 1) := by decide +kernel
theorem dX5_placeOf_4 : decode cX5_placeOf 4 = .ok (.getfield 64, 3) := by decide +kernel
theorem dX5_placeOf_7 : decode cX5_placeOf 7 = .ok (.if_icmp .ge 21, 3) := by decide +kernel
theorem dX5_placeOf_10 : decode cX5_placeOf 10 = .ok (.aload_n 0, 1) := by decide +kernel
theorem dX5_placeOf_11 : decode cX5_placeOf 11 = .ok (.getfield 18, 3) := by decide +kernel
theorem dX5_placeOf_14 : decode cX5_placeOf 14 = .ok (.iload_n 2, 1) := by decide +kernel
theorem dX5_placeOf_15 : decode cX5_placeOf 15 = .ok (.iaload, 1) := by decide +kernel
theorem dX5_placeOf_16 : decode cX5_placeOf 16 = .ok (.iload_n 1, 1) := by decide +kernel
theorem dX5_placeOf_17 : decode cX5_placeOf 17 = .ok (.if_icmp .ne 5, 3) := by decide +kernel
theorem dX5_placeOf_20 : decode cX5_placeOf 20 = .ok (.iload_n 2, 1) := by decide +kernel
theorem dX5_placeOf_21 : decode cX5_placeOf 21 = .ok (.ireturn, 1) := by decide +kernel
theorem dX5_placeOf_22 : decode cX5_placeOf 22 = .ok (.iinc 2 1, 3) := by decide +kernel
theorem dX5_placeOf_25 : decode cX5_placeOf 25 = .ok (.goto (-23), 3) := by decide +kernel
theorem dX5_placeOf_28 : decode cX5_placeOf 28 = .ok (.bipush (-4), 2) := by decide +kernel
theorem dX5_placeOf_30 : decode cX5_placeOf 30 = .ok (.ireturn, 1) := by decide +kernel
theorem dX5_tell_0 : decode cX5_tell 0 = .ok (.iload_n 1, 1) := by decide +kernel
theorem dX5_tell_1 : decode cX5_tell 1 = .ok (.tableswitch 107 0 7 #[47, 64, 69, 74, 79, 92, 97, 102], 47) := by decide +kernel
theorem dX5_tell_48 : decode cX5_tell 48 = .ok (.aload_n 0, 1) := by decide +kernel
theorem dX5_tell_49 : decode cX5_tell 49 = .ok (.getfield 33, 3) := by decide +kernel
theorem dX5_tell_52 : decode cX5_tell 52 = .ok (.ifCond .eq 8, 3) := by decide +kernel
theorem dX5_tell_55 : decode cX5_tell 55 = .ok (.bipush (-4), 2) := by decide +kernel
theorem dX5_tell_57 : decode cX5_tell 57 = .ok (.goto 7, 3) := by decide +kernel
theorem dX5_tell_60 : decode cX5_tell 60 = .ok (.aload_n 0, 1) := by decide +kernel
theorem dX5_tell_61 : decode cX5_tell 61 = .ok (.getfield 42, 3) := by decide +kernel
theorem dX5_tell_64 : decode cX5_tell 64 = .ok (.ireturn, 1) := by decide +kernel
theorem dX5_tell_65 : decode cX5_tell 65 = .ok (.aload_n 0, 1) := by decide +kernel
theorem dX5_tell_66 : decode cX5_tell 66 = .ok (.getfield 46, 3) := by decide +kernel
theorem dX5_tell_69 : decode cX5_tell 69 = .ok (.ireturn, 1) := by decide +kernel
theorem dX5_tell_70 : decode cX5_tell 70 = .ok (.aload_n 0, 1) := by decide +kernel
theorem dX5_tell_71 : decode cX5_tell 71 = .ok (.getfield 49, 3) := by decide +kernel
theorem dX5_tell_74 : decode cX5_tell 74 = .ok (.ireturn, 1) := by decide +kernel
theorem dX5_tell_75 : decode cX5_tell 75 = .ok (.aload_n 0, 1) := by decide +kernel
theorem dX5_tell_76 : decode cX5_tell 76 = .ok (.getfield 52, 3) := by decide +kernel
theorem dX5_tell_79 : decode cX5_tell 79 = .ok (.ireturn, 1) := by decide +kernel
theorem dX5_tell_80 : decode cX5_tell 80 = .ok (.aload_n 0, 1) := by decide +kernel
theorem dX5_tell_81 : decode cX5_tell 81 = .ok (.getfield 39, 3) := by decide +kernel
theorem dX5_tell_84 : decode cX5_tell 84 = .ok (.ifCond .eq 7, 3) := by decide +kernel
theorem dX5_tell_87 : decode cX5_tell 87 = .ok (.iconst 1, 1) := by decide +kernel
theorem dX5_tell_88 : decode cX5_tell 88 = .ok (.goto 4, 3) := by decide +kernel
theorem dX5_tell_91 : decode cX5_tell 91 = .ok (.iconst 0, 1) := by decide +kernel
theorem dX5_tell_92 : decode cX5_tell 92 = .ok (.ireturn, 1) := by decide +kernel
theorem dX5_tell_93 : decode cX5_tell 93 = .ok (.aload_n 0, 1) := by decide +kernel
theorem dX5_tell_94 : decode cX5_tell 94 = .ok (.getfield 67, 3) := by decide +kernel
theorem dX5_tell_97 : decode cX5_tell 97 = .ok (.ireturn, 1) := by decide +kernel
theorem dX5_tell_98 : decode cX5_tell 98 = .ok (.aload_n 0, 1) := by decide +kernel
theorem dX5_tell_99 : decode cX5_tell 99 = .ok (.getfield 70, 3) := by decide +kernel
theorem dX5_tell_102 : decode cX5_tell 102 = .ok (.ireturn, 1) := by decide +kernel
theorem dX5_tell_103 : decode cX5_tell 103 = .ok (.aload_n 0, 1) := by decide +kernel
theorem dX5_tell_104 : decode cX5_tell 104 = .ok (.getfield 64, 3) := by decide +kernel
theorem dX5_tell_107 : decode cX5_tell 107 = .ok (.ireturn, 1) := by decide +kernel
theorem dX5_tell_108 : decode cX5_tell 108 = .ok (.aload_n 0, 1) := by decide +kernel
theorem dX5_tell_109 : decode cX5_tell 109 = .ok (.getfield 36, 3) := by decide +kernel
theorem dX5_tell_112 : decode cX5_tell 112 = .ok (.ifCond .eq 7, 3) := by decide +kernel
theorem dX5_tell_115 : decode cX5_tell 115 = .ok (.iconst 1, 1) := by decide +kernel
theorem dX5_tell_116 : decode cX5_tell 116 = .ok (.goto 4, 3) := by decide +kernel
theorem dX5_tell_119 : decode cX5_tell 119 = .ok (.iconst 0, 1) := by decide +kernel
theorem dX5_tell_120 : decode cX5_tell 120 = .ok (.ireturn, 1) := by decide +kernel
theorem dX6_init_0 : decode cX6_init 0 = .ok (.aload_n 0, 1) := by decide +kernel
theorem dX6_init_1 : decode cX6_init 1 = .ok (.invokespecial 3, 3) := by decide +kernel
theorem dX6_init_4 : decode cX6_init 4 = .ok (.aload_n 0, 1) := by decide +kernel
theorem dX6_init_5 : decode cX6_init 5 = .ok (.bipush 8, 2) := by decide +kernel
theorem dX6_init_7 : decode cX6_init 7 = .ok (.anewarray 9, 3) := by decide +kernel
theorem dX6_init_10 : decode cX6_init 10 = .ok (.putfield 11, 3) := by decide +kernel
theorem dX6_init_13 : decode cX6_init 13 = .ok (.aload_n 0, 1) := by decide +kernel
theorem dX6_init_14 : decode cX6_init 14 = .ok (.bipush 8, 2) := by decide +kernel
theorem dX6_init_16 : decode cX6_init 16 = .ok (.putfield 17, 3) := by decide +kernel
theorem dX6_init_19 : decode cX6_init 19 = .ok (.aload_n 0, 1) := by decide +kernel
theorem dX6_init_20 : decode cX6_init 20 = .ok (.iconst 2, 1) := by decide +kernel
theorem dX6_init_21 : decode cX6_init 21 = .ok (.putfield 21, 3) := by decide +kernel
theorem dX6_init_24 : decode cX6_init 24 = .ok (.iconst 0, 1) := by decide +kernel
theorem dX6_init_25 : decode cX6_init 25 = .ok (.istore_n 1, 1) := by decide +kernel
theorem dX6_init_26 : decode cX6_init 26 = .ok (.iload_n 1, 1) := by decide +kernel
theorem dX6_init_27 : decode cX6_init 27 = .ok (.bipush 8, 2) := by decide +kernel
theorem dX6_init_29 : decode cX6_init 29 = .ok (.if_icmp .ge 22, 3) := by decide +kernel
theorem dX6_init_32 : decode cX6_init 32 = .ok (.aload_n 0, 1) := by decide +kernel
theorem dX6_init_33 : decode cX6_init 33 = .ok (.getfield 11, 3) := by decide +kernel
theorem dX6_init_36 : decode cX6_init 36 = .ok (.iload_n 1, 1) := by decide +kernel
theorem dX6_init_37 : decode cX6_init 37 = .ok (.new 9, 3) := by decide +kernel
theorem dX6_init_40 : decode cX6_init 40 = .ok (.dup, 1) := by decide +kernel
theorem dX6_init_41 : decode cX6_init 41 = .ok (.invokespecial 24, 3) := by decide +kernel
theorem dX6_init_44 : decode cX6_init 44 = .ok (.aastore, 1) := by decide +kernel
theorem dX6_init_45 : decode cX6_init 45 = .ok (.iinc 1 1, 3) := by decide +kernel
theorem dX6_init_48 : decode cX6_init 48 = .ok (.goto (-22), 3) := by decide +kernel
theorem dX6_init_51 : decode cX6_init 51 = .ok (.return_, 1) := by decide +kernel
theorem dX6_copy_0 : decode cX6_copy 0 = .ok (.aload_n 0, 1) := by decide +kernel
theorem dX6_copy_1 : decode cX6_copy 1 = .ok (.aload_n 1, 1) := by decide +kernel
theorem dX6_copy_2 : decode cX6_copy 2 = .ok (.getfield 25, 3) := by decide +kernel
theorem dX6_copy_5 : decode cX6_copy 5 = .ok (.putfield 25, 3) := by decide +kernel
theorem dX6_copy_8 : decode cX6_copy 8 = .ok (.aload_n 0, 1) := by decide +kernel
theorem dX6_copy_9 : decode cX6_copy 9 = .ok (.aload_n 1, 1) := by decide +kernel
theorem dX6_copy_10 : decode cX6_copy 10 = .ok (.getfield 17, 3) := by decide +kernel
theorem dX6_copy_13 : decode cX6_copy 13 = .ok (.putfield 17, 3) := by decide +kernel
theorem dX6_copy_16 : decode cX6_copy 16 = .ok (.aload_n 0, 1) := by decide +kernel
theorem dX6_copy_17 : decode cX6_copy 17 = .ok (.aload_n 1, 1) := by decide +kernel
theorem dX6_copy_18 : decode cX6_copy 18 = .ok (.getfield 21, 3) := by decide +kernel
theorem dX6_copy_21 : decode cX6_copy 21 = .ok (.putfield 21, 3) := by decide +kernel
theorem dX6_copy_24 : decode cX6_copy 24 = .ok (.iconst 0, 1) := by decide +kernel
theorem dX6_copy_25 : decode cX6_copy 25 = .ok (.istore_n 2, 1) := by decide +kernel
theorem dX6_copy_26 : decode cX6_copy 26 = .ok (.iload_n 2, 1) := by decide +kernel
theorem dX6_copy_27 : decode cX6_copy 27 = .ok (.aload_n 0, 1) := by decide +kernel
theorem dX6_copy_28 : decode cX6_copy 28 = .ok (.getfield 25, 3) := by decide +kernel
theorem dX6_copy_31 : decode cX6_copy 31 = .ok (.if_icmp .ge 24, 3) := by decide +kernel
theorem dX6_copy_34 : decode cX6_copy 34 = .ok (.aload_n 0, 1) := by decide +kernel
theorem dX6_copy_35 : decode cX6_copy 35 = .ok (.getfield 11, 3) := by decide +kernel
theorem dX6_copy_38 : decode cX6_copy 38 = .ok (.iload_n 2, 1) := by decide +kernel
theorem dX6_copy_39 : decode cX6_copy 39 = .ok (.aaload, 1) := by decide +kernel
theorem dX6_copy_40 : decode cX6_copy 40 = .ok (.aload_n 1, 1) := by decide +kernel
theorem dX6_copy_41 : decode cX6_copy 41 = .ok (.getfield 11, 3) := by decide +kernel
theorem dX6_copy_44 : decode cX6_copy 44 = .ok (.iload_n 2, 1) := by decide +kernel
theorem dX6_copy_45 : decode cX6_copy 45 = .ok (.aaload, 1) := by decide +kernel
theorem dX6_copy_46 : decode cX6_copy 46 = .ok (.invokevirtual 28, 3) := by decide +kernel
theorem dX6_copy_49 : decode cX6_copy 49 = .ok (.iinc 2 1, 3) := by decide +kernel
theorem dX6_copy_52 : decode cX6_copy 52 = .ok (.goto (-26), 3) := by decide +kernel
theorem dX6_copy_55 : decode cX6_copy 55 = .ok (.return_, 1) := by decide +kernel
theorem dX6_has_0 : decode cX6_has 0 = .ok (.iload_n 1, 1) := by decide +kernel
theorem dX6_has_1 : decode cX6_has 1 = .ok (.ifCond .lt 15, 3) := by decide +kernel
theorem dX6_has_4 : decode cX6_has 4 = .ok (.iload_n 1, 1) := by decide +kernel
theorem dX6_has_5 : decode cX6_has 5 = .ok (.aload_n 0, 1) := by decide +kernel
theorem dX6_has_6 : decode cX6_has 6 = .ok (.getfield 25, 3) := by decide +kernel
theorem dX6_has_9 : decode cX6_has 9 = .ok (.if_icmp .ge 7, 3) := by decide +kernel
theorem dX6_has_12 : decode cX6_has 12 = .ok (.iconst 1, 1) := by decide +kernel
theorem dX6_has_13 : decode cX6_has 13 = .ok (.goto 4, 3) := by decide +kernel
theorem dX6_has_16 : decode cX6_has 16 = .ok (.iconst 0, 1) := by decide +kernel
theorem dX6_has_17 : decode cX6_has 17 = .ok (.ireturn, 1) := by decide +kernel
theorem dX6_append_0 : decode cX6_append 0 = .ok (.aload_n 0, 1) := by decide +kernel
theorem dX6_append_1 : decode cX6_append 1 = .ok (.getfield 25, 3) := by decide +kernel
theorem dX6_append_4 : decode cX6_append 4 = .ok (.bipush 8, 2) := by decide +kernel
theorem dX6_append_6 : decode cX6_append 6 = .ok (.if_icmp .ge 30, 3) := by decide +kernel
theorem dX6_append_9 : decode cX6_append 9 = .ok (.aload_n 0, 1) := by decide +kernel
theorem dX6_append_10 : decode cX6_append 10 = .ok (.getfield 11, 3) := by decide +kernel
theorem dX6_append_13 : decode cX6_append 13 = .ok (.aload_n 0, 1) := by decide +kernel
theorem dX6_append_14 : decode cX6_append 14 = .ok (.getfield 25, 3) := by decide +kernel
theorem dX6_append_17 : decode cX6_append 17 = .ok (.aaload, 1) := by decide +kernel
theorem dX6_append_18 : decode cX6_append 18 = .ok (.aload_n 1, 1) := by decide +kernel
theorem dX6_append_19 : decode cX6_append 19 = .ok (.iload_n 2, 1) := by decide +kernel
theorem dX6_append_20 : decode cX6_append 20 = .ok (.iload_n 3, 1) := by decide +kernel
theorem dX6_append_21 : decode cX6_append 21 = .ok (.iload 4, 2) := by decide +kernel
theorem dX6_append_23 : decode cX6_append 23 = .ok (.invokevirtual 32, 3) := by decide +kernel
theorem dX6_append_26 : decode cX6_append 26 = .ok (.aload_n 0, 1) := by decide +kernel
theorem dX6_append_27 : decode cX6_append 27 = .ok (.dup, 1) := by decide +kernel
theorem dX6_append_28 : decode cX6_append 28 = .ok (.getfield 25, 3) := by decide +kernel
theorem dX6_append_31 : decode cX6_append 31 = .ok (.iconst 1, 1) := by decide +kernel
theorem dX6_append_32 : decode cX6_append 32 = .ok (.iadd, 1) := by decide +kernel
theorem dX6_append_33 : decode cX6_append 33 = .ok (.putfield 25, 3) := by decide +kernel
theorem dX6_append_36 : decode cX6_append 36 = .ok (.return_, 1) := by decide +kernel
theorem dX6_remove_0 : decode cX6_remove 0 = .ok (.aload_n 0, 1) := by decide +kernel
theorem dX6_remove_1 : decode cX6_remove 1 = .ok (.dup, 1) := by decide +kernel
theorem dX6_remove_2 : decode cX6_remove 2 = .ok (.getfield 25, 3) := by decide +kernel
theorem dX6_remove_5 : decode cX6_remove 5 = .ok (.iconst 1, 1) := by decide +kernel
theorem dX6_remove_6 : decode cX6_remove 6 = .ok (.isub, 1) := by decide +kernel
theorem dX6_remove_7 : decode cX6_remove 7 = .ok (.putfield 25, 3) := by decide +kernel
theorem dX6_remove_10 : decode cX6_remove 10 = .ok (.iload_n 1, 1) := by decide +kernel
theorem dX6_remove_11 : decode cX6_remove 11 = .ok (.istore_n 2, 1) := by decide +kernel
theorem dX6_remove_12 : decode cX6_remove 12 = .ok (.iload_n 2, 1) := by decide +kernel
theorem dX6_remove_13 : decode cX6_remove 13 = .ok (.aload_n 0, 1) := by decide +kernel
theorem dX6_remove_14 : decode cX6_remove 14 = .ok (.getfield 25, 3) := by decide +kernel
theorem dX6_remove_17 : decode cX6_remove 17 = .ok (.if_icmp .ge 26, 3) := by decide +kernel
theorem dX6_remove_20 : decode cX6_remove 20 = .ok (.aload_n 0, 1) := by decide +kernel
theorem dX6_remove_21 : decode cX6_remove 21 = .ok (.getfield 11, 3) := by decide +kernel
theorem dX6_remove_24 : decode cX6_remove 24 = .ok (.iload_n 2, 1) := by decide +kernel
theorem dX6_remove_25 : decode cX6_remove 25 = .ok (.aaload, 1) := by decide +kernel
theorem dX6_remove_26 : decode cX6_remove 26 = .ok (.aload_n 0, 1) := by decide +kernel
theorem dX6_remove_27 : decode cX6_remove 27 = .ok (.getfield 11, 3) := by decide +kernel
theorem dX6_remove_30 : decode cX6_remove 30 = .ok (.iload_n 2, 1) := by decide +kernel
theorem dX6_remove_31 : decode cX6_remove 31 = .ok (.iconst 1, 1) := by decide +kernel
theorem dX6_remove_32 : decode cX6_remove 32 = .ok (.iadd, 1) := by decide +kernel
theorem dX6_remove_33 : decode cX6_remove 33 = .ok (.aaload, 1) := by decide +kernel
theorem dX6_remove_34 : decode cX6_remove 34 = .ok (.invokevirtual 28, 3) := by decide +kernel
theorem dX6_remove_37 : decode cX6_remove 37 = .ok (.iinc 2 1, 3) := by decide +kernel
theorem dX6_remove_40 : decode cX6_remove 40 = .ok (.goto (-28), 3) := by decide +kernel
theorem dX6_remove_43 : decode cX6_remove 43 = .ok (.return_, 1) := by decide +kernel
theorem dX6_hasAlike_0 : decode cX6_hasAlike 0 = .ok (.iload 4, 2) := by decide +kernel
theorem dX6_hasAlike_2 : decode cX6_hasAlike 2 = .ok (.ifCond .ge 8, 3) := by decide +kernel
theorem dX6_hasAlike_5 : decode cX6_hasAlike 5 = .ok (.bipush (-4), 2) := by decide +kernel
theorem dX6_hasAlike_7 : decode cX6_hasAlike 7 = .ok (.goto 5, 3) := by decide +kernel
theorem dX6_hasAlike_10 : decode cX6_hasAlike 10 = .ok (.iload 4, 2) := by decide +kernel
theorem dX6_hasAlike_12 : decode cX6_hasAlike 12 = .ok (.istore 5, 2) := by decide +kernel
theorem dX6_hasAlike_14 : decode cX6_hasAlike 14 = .ok (.iconst 0, 1) := by decide +kernel
theorem dX6_hasAlike_15 : decode cX6_hasAlike 15 = .ok (.istore 6, 2) := by decide +kernel
theorem dX6_hasAlike_17 : decode cX6_hasAlike 17 = .ok (.iload 6, 2) := by decide +kernel
theorem dX6_hasAlike_19 : decode cX6_hasAlike 19 = .ok (.aload_n 0, 1) := by decide +kernel
theorem dX6_hasAlike_20 : decode cX6_hasAlike 20 = .ok (.getfield 25, 3) := by decide +kernel
theorem dX6_hasAlike_23 : decode cX6_hasAlike 23 = .ok (.if_icmp .ge 49, 3) := by decide +kernel
theorem dX6_hasAlike_26 : decode cX6_hasAlike 26 = .ok (.aload_n 0, 1) := by decide +kernel
theorem dX6_hasAlike_27 : decode cX6_hasAlike 27 = .ok (.getfield 11, 3) := by decide +kernel
theorem dX6_hasAlike_30 : decode cX6_hasAlike 30 = .ok (.iload 6, 2) := by decide +kernel
theorem dX6_hasAlike_32 : decode cX6_hasAlike 32 = .ok (.aaload, 1) := by decide +kernel
theorem dX6_hasAlike_33 : decode cX6_hasAlike 33 = .ok (.astore 7, 2) := by decide +kernel
theorem dX6_hasAlike_35 : decode cX6_hasAlike 35 = .ok (.aload 7, 2) := by decide +kernel
theorem dX6_hasAlike_37 : decode cX6_hasAlike 37 = .ok (.getfield 36, 3) := by decide +kernel
theorem dX6_hasAlike_40 : decode cX6_hasAlike 40 = .ok (.iload_n 3, 1) := by decide +kernel
theorem dX6_hasAlike_41 : decode cX6_hasAlike 41 = .ok (.if_icmp .ne 25, 3) := by decide +kernel
theorem dX6_hasAlike_44 : decode cX6_hasAlike 44 = .ok (.aload 7, 2) := by decide +kernel
theorem dX6_hasAlike_46 : decode cX6_hasAlike 46 = .ok (.getfield 39, 3) := by decide +kernel
theorem dX6_hasAlike_49 : decode cX6_hasAlike 49 = .ok (.iload 5, 2) := by decide +kernel
theorem dX6_hasAlike_51 : decode cX6_hasAlike 51 = .ok (.if_icmp .ne 15, 3) := by decide +kernel
theorem dX6_hasAlike_54 : decode cX6_hasAlike 54 = .ok (.aload 7, 2) := by decide +kernel
theorem dX6_hasAlike_56 : decode cX6_hasAlike 56 = .ok (.aload_n 1, 1) := by decide +kernel
theorem dX6_hasAlike_57 : decode cX6_hasAlike 57 = .ok (.iload_n 2, 1) := by decide +kernel
theorem dX6_hasAlike_58 : decode cX6_hasAlike 58 = .ok (.invokevirtual 42, 3) := by decide +kernel
theorem dX6_hasAlike_61 : decode cX6_hasAlike 61 = .ok (.ifCond .eq 5, 3) := by decide +kernel
theorem dX6_hasAlike_64 : decode cX6_hasAlike 64 = .ok (.iconst 1, 1) := by decide +kernel
theorem dX6_hasAlike_65 : decode cX6_hasAlike 65 = .ok (.ireturn, 1) := by decide +kernel
theorem dX6_hasAlike_66 : decode cX6_hasAlike 66 = .ok (.iinc 6 1, 3) := by decide +kernel
theorem dX6_hasAlike_69 : decode cX6_hasAlike 69 = .ok (.goto (-52), 3) := by decide +kernel
theorem dX6_hasAlike_72 : decode cX6_hasAlike 72 = .ok (.iconst 0, 1) := by decide +kernel
theorem dX6_hasAlike_73 : decode cX6_hasAlike 73 = .ok (.ireturn, 1) := by decide +kernel
theorem dX6_tableNibbles_0 : decode cX6_tableNibbles 0 = .ok (.iconst 0, 1) := by decide +kernel
theorem dX6_tableNibbles_1 : decode cX6_tableNibbles 1 = .ok (.istore_n 1, 1) := by decide +kernel
theorem dX6_tableNibbles_2 : decode cX6_tableNibbles 2 = .ok (.iconst 0, 1) := by decide +kernel
theorem dX6_tableNibbles_3 : decode cX6_tableNibbles 3 = .ok (.istore_n 2, 1) := by decide +kernel
theorem dX6_tableNibbles_4 : decode cX6_tableNibbles 4 = .ok (.iload_n 2, 1) := by decide +kernel
theorem dX6_tableNibbles_5 : decode cX6_tableNibbles 5 = .ok (.aload_n 0, 1) := by decide +kernel
theorem dX6_tableNibbles_6 : decode cX6_tableNibbles 6 = .ok (.getfield 25, 3) := by decide +kernel
theorem dX6_tableNibbles_9 : decode cX6_tableNibbles 9 = .ok (.if_icmp .ge 24, 3) := by decide +kernel
theorem dX6_tableNibbles_12 : decode cX6_tableNibbles 12 = .ok (.iload_n 1, 1) := by decide +kernel
theorem dX6_tableNibbles_13 : decode cX6_tableNibbles 13 = .ok (.aload_n 0, 1) := by decide +kernel
theorem dX6_tableNibbles_14 : decode cX6_tableNibbles 14 = .ok (.getfield 11, 3) := by decide +kernel
theorem dX6_tableNibbles_17 : decode cX6_tableNibbles 17 = .ok (.iload_n 2, 1) := by decide +kernel
theorem dX6_tableNibbles_18 : decode cX6_tableNibbles 18 = .ok (.aaload, 1) := by decide +kernel
theorem dX6_tableNibbles_19 : decode cX6_tableNibbles 19 = .ok (.getfield 36, 3) := by decide +kernel
theorem dX6_tableNibbles_22 : decode cX6_tableNibbles 22 = .ok (.invokestatic 46, 3) := by decide +kernel
theorem dX6_tableNibbles_25 : decode cX6_tableNibbles 25 = .ok (.iadd, 1) := by decide +kernel
theorem dX6_tableNibbles_26 : decode cX6_tableNibbles 26 = .ok (.istore_n 1, 1) := by decide +kernel
theorem dX6_tableNibbles_27 : decode cX6_tableNibbles 27 = .ok (.iinc 2 1, 3) := by decide +kernel
theorem dX6_tableNibbles_30 : decode cX6_tableNibbles 30 = .ok (.goto (-26), 3) := by decide +kernel
theorem dX6_tableNibbles_33 : decode cX6_tableNibbles 33 = .ok (.iload_n 1, 1) := by decide +kernel
theorem dX6_tableNibbles_34 : decode cX6_tableNibbles 34 = .ok (.ireturn, 1) := by decide +kernel
theorem dX7_init_0 : decode cX7_init 0 = .ok (.aload_n 0, 1) := by decide +kernel
theorem dX7_init_1 : decode cX7_init 1 = .ok (.invokespecial 3, 3) := by decide +kernel
theorem dX7_init_4 : decode cX7_init 4 = .ok (.aload_n 0, 1) := by decide +kernel
theorem dX7_init_5 : decode cX7_init 5 = .ok (.sipush 200, 3) := by decide +kernel
theorem dX7_init_8 : decode cX7_init 8 = .ok (.newarray .char, 2) := by decide +kernel
theorem dX7_init_10 : decode cX7_init 10 = .ok (.putfield 9, 3) := by decide +kernel
theorem dX7_init_13 : decode cX7_init 13 = .ok (.aload_n 0, 1) := by decide +kernel
theorem dX7_init_14 : decode cX7_init 14 = .ok (.bipush 48, 2) := by decide +kernel
theorem dX7_init_16 : decode cX7_init 16 = .ok (.newarray .int, 2) := by decide +kernel
theorem dX7_init_18 : decode cX7_init 18 = .ok (.putfield 15, 3) := by decide +kernel
theorem dX7_init_21 : decode cX7_init 21 = .ok (.return_, 1) := by decide +kernel
theorem dX7_append_0 : decode cX7_append 0 = .ok (.aload_n 0, 1) := by decide +kernel
theorem dX7_append_1 : decode cX7_append 1 = .ok (.getfield 19, 3) := by decide +kernel
theorem dX7_append_4 : decode cX7_append 4 = .ok (.sipush 200, 3) := by decide +kernel
theorem dX7_append_7 : decode cX7_append 7 = .ok (.if_icmp .lt 6, 3) := by decide +kernel
theorem dX7_append_10 : decode cX7_append 10 = .ok (.bipush (-3), 2) := by decide +kernel
theorem dX7_append_12 : decode cX7_append 12 = .ok (.ireturn, 1) := by decide +kernel
theorem dX7_append_13 : decode cX7_append 13 = .ok (.aload_n 0, 1) := by decide +kernel
theorem dX7_append_14 : decode cX7_append 14 = .ok (.getfield 9, 3) := by decide +kernel
theorem dX7_append_17 : decode cX7_append 17 = .ok (.aload_n 0, 1) := by decide +kernel
theorem dX7_append_18 : decode cX7_append 18 = .ok (.getfield 19, 3) := by decide +kernel
theorem dX7_append_21 : decode cX7_append 21 = .ok (.iload_n 1, 1) := by decide +kernel
theorem dX7_append_22 : decode cX7_append 22 = .ok (.castore, 1) := by decide +kernel
theorem dX7_append_23 : decode cX7_append 23 = .ok (.aload_n 0, 1) := by decide +kernel
theorem dX7_append_24 : decode cX7_append 24 = .ok (.dup, 1) := by decide +kernel
theorem dX7_append_25 : decode cX7_append 25 = .ok (.getfield 19, 3) := by decide +kernel
theorem dX7_append_28 : decode cX7_append 28 = .ok (.iconst 1, 1) := by decide +kernel
theorem dX7_append_29 : decode cX7_append 29 = .ok (.iadd, 1) := by decide +kernel
theorem dX7_append_30 : decode cX7_append 30 = .ok (.putfield 19, 3) := by decide +kernel
theorem dX7_append_33 : decode cX7_append 33 = .ok (.aload_n 0, 1) := by decide +kernel
theorem dX7_append_34 : decode cX7_append 34 = .ok (.getfield 19, 3) := by decide +kernel
theorem dX7_append_37 : decode cX7_append 37 = .ok (.ireturn, 1) := by decide +kernel
theorem dX7_empty_0 : decode cX7_empty 0 = .ok (.aload_n 0, 1) := by decide +kernel
theorem dX7_empty_1 : decode cX7_empty 1 = .ok (.getfield 19, 3) := by decide +kernel
theorem dX7_empty_4 : decode cX7_empty 4 = .ok (.istore_n 1, 1) := by decide +kernel
theorem dX7_empty_5 : decode cX7_empty 5 = .ok (.aload_n 0, 1) := by decide +kernel
theorem dX7_empty_6 : decode cX7_empty 6 = .ok (.iconst 0, 1) := by decide +kernel
theorem dX7_empty_7 : decode cX7_empty 7 = .ok (.putfield 19, 3) := by decide +kernel
theorem dX7_empty_10 : decode cX7_empty 10 = .ok (.iload_n 1, 1) := by decide +kernel
theorem dX7_empty_11 : decode cX7_empty 11 = .ok (.ireturn, 1) := by decide +kernel
theorem dX7_findFault_0 : decode cX7_findFault 0 = .ok (.aload_n 0, 1) := by decide +kernel
theorem dX7_findFault_1 : decode cX7_findFault 1 = .ok (.iconst 0, 1) := by decide +kernel
theorem dX7_findFault_2 : decode cX7_findFault 2 = .ok (.putfield 23, 3) := by decide +kernel
theorem dX7_findFault_5 : decode cX7_findFault 5 = .ok (.iconst 0, 1) := by decide +kernel
theorem dX7_findFault_6 : decode cX7_findFault 6 = .ok (.istore_n 1, 1) := by decide +kernel
theorem dX7_findFault_7 : decode cX7_findFault 7 = .ok (.iconst 0, 1) := by decide +kernel
theorem dX7_findFault_8 : decode cX7_findFault 8 = .ok (.istore_n 2, 1) := by decide +kernel
theorem dX7_findFault_9 : decode cX7_findFault 9 = .ok (.iload_n 2, 1) := by decide +kernel
theorem dX7_findFault_10 : decode cX7_findFault 10 = .ok (.sipush 200, 3) := by decide +kernel
theorem dX7_findFault_13 : decode cX7_findFault 13 = .ok (.if_icmp .ge 57, 3) := by decide +kernel
theorem dX7_findFault_16 : decode cX7_findFault 16 = .ok (.iload_n 1, 1) := by decide +kernel
theorem dX7_findFault_17 : decode cX7_findFault 17 = .ok (.aload_n 0, 1) := by decide +kernel
theorem dX7_findFault_18 : decode cX7_findFault 18 = .ok (.getfield 19, 3) := by decide +kernel
theorem dX7_findFault_21 : decode cX7_findFault 21 = .ok (.if_icmp .ge 49, 3) := by decide +kernel
theorem dX7_findFault_24 : decode cX7_findFault 24 = .ok (.iload_n 2, 1) := by decide +kernel
theorem dX7_findFault_25 : decode cX7_findFault 25 = .ok (.bipush 48, 2) := by decide +kernel
theorem dX7_findFault_27 : decode cX7_findFault 27 = .ok (.if_icmp .ge 11, 3) := by decide +kernel
theorem dX7_findFault_30 : decode cX7_findFault 30 = .ok (.aload_n 0, 1) := by decide +kernel
theorem dX7_findFault_31 : decode cX7_findFault 31 = .ok (.iload_n 1, 1) := by decide +kernel
theorem dX7_findFault_32 : decode cX7_findFault 32 = .ok (.invokevirtual 26, 3) := by decide +kernel
theorem dX7_findFault_35 : decode cX7_findFault 35 = .ok (.goto 4, 3) := by decide +kernel
theorem dX7_findFault_38 : decode cX7_findFault 38 = .ok (.iconst 0, 1) := by decide +kernel
theorem dX7_findFault_39 : decode cX7_findFault 39 = .ok (.istore_n 3, 1) := by decide +kernel
theorem dX7_findFault_40 : decode cX7_findFault 40 = .ok (.iload_n 3, 1) := by decide +kernel
theorem dX7_findFault_41 : decode cX7_findFault 41 = .ok (.ifCond .ne 5, 3) := by decide +kernel
theorem dX7_findFault_44 : decode cX7_findFault 44 = .ok (.iload_n 1, 1) := by decide +kernel
theorem dX7_findFault_45 : decode cX7_findFault 45 = .ok (.ireturn, 1) := by decide +kernel
theorem dX7_findFault_46 : decode cX7_findFault 46 = .ok (.aload_n 0, 1) := by decide +kernel
theorem dX7_findFault_47 : decode cX7_findFault 47 = .ok (.getfield 15, 3) := by decide +kernel
theorem dX7_findFault_50 : decode cX7_findFault 50 = .ok (.iload_n 2, 1) := by decide +kernel
theorem dX7_findFault_51 : decode cX7_findFault 51 = .ok (.iload_n 1, 1) := by decide +kernel
theorem dX7_findFault_52 : decode cX7_findFault 52 = .ok (.iastore, 1) := by decide +kernel
theorem dX7_findFault_53 : decode cX7_findFault 53 = .ok (.aload_n 0, 1) := by decide +kernel
theorem dX7_findFault_54 : decode cX7_findFault 54 = .ok (.iload_n 2, 1) := by decide +kernel
theorem dX7_findFault_55 : decode cX7_findFault 55 = .ok (.iconst 1, 1) := by decide +kernel
theorem dX7_findFault_56 : decode cX7_findFault 56 = .ok (.iadd, 1) := by decide +kernel
theorem dX7_findFault_57 : decode cX7_findFault 57 = .ok (.putfield 23, 3) := by decide +kernel
theorem dX7_findFault_60 : decode cX7_findFault 60 = .ok (.iload_n 1, 1) := by decide +kernel
theorem dX7_findFault_61 : decode cX7_findFault 61 = .ok (.iload_n 3, 1) := by decide +kernel
theorem dX7_findFault_62 : decode cX7_findFault 62 = .ok (.iadd, 1) := by decide +kernel
theorem dX7_findFault_63 : decode cX7_findFault 63 = .ok (.istore_n 1, 1) := by decide +kernel
theorem dX7_findFault_64 : decode cX7_findFault 64 = .ok (.iinc 2 1, 3) := by decide +kernel
theorem dX7_findFault_67 : decode cX7_findFault 67 = .ok (.goto (-58), 3) := by decide +kernel
theorem dX7_findFault_70 : decode cX7_findFault 70 = .ok (.aload_n 0, 1) := by decide +kernel
theorem dX7_findFault_71 : decode cX7_findFault 71 = .ok (.invokevirtual 30, 3) := by decide +kernel
theorem dX7_findFault_74 : decode cX7_findFault 74 = .ok (.ireturn, 1) := by decide +kernel
theorem dX7_findLostTarget_0 : decode cX7_findLostTarget 0 = .ok (.iconst 0, 1) := by decide +kernel
theorem dX7_findLostTarget_1 : decode cX7_findLostTarget 1 = .ok (.istore_n 1, 1) := by decide +kernel
theorem dX7_findLostTarget_2 : decode cX7_findLostTarget 2 = .ok (.iload_n 1, 1) := by decide +kernel
theorem dX7_findLostTarget_3 : decode cX7_findLostTarget 3 = .ok (.aload_n 0, 1) := by decide +kernel
theorem dX7_findLostTarget_4 : decode cX7_findLostTarget 4 = .ok (.getfield 23, 3) := by decide +kernel
theorem dX7_findLostTarget_7 : decode cX7_findLostTarget 7 = .ok (.if_icmp .ge 39, 3) := by decide +kernel
theorem dX7_findLostTarget_10 : decode cX7_findLostTarget 10 = .ok (.aload_n 0, 1) := by decide +kernel
theorem dX7_findLostTarget_11 : decode cX7_findLostTarget 11 = .ok (.iload_n 1, 1) := by decide +kernel
theorem dX7_findLostTarget_12 : decode cX7_findLostTarget 12 = .ok (.invokevirtual 34, 3) := by decide +kernel
theorem dX7_findLostTarget_15 : decode cX7_findLostTarget 15 = .ok (.invokestatic 37, 3) := by decide +kernel
theorem dX7_findLostTarget_18 : decode cX7_findLostTarget 18 = .ok (.ifCond .eq 22, 3) := by decide +kernel
theorem dX7_findLostTarget_21 : decode cX7_findLostTarget 21 = .ok (.aload_n 0, 1) := by decide +kernel
theorem dX7_findLostTarget_22 : decode cX7_findLostTarget 22 = .ok (.iload_n 1, 1) := by decide +kernel
theorem dX7_findLostTarget_23 : decode cX7_findLostTarget 23 = .ok (.invokevirtual 41, 3) := by decide +kernel
theorem dX7_findLostTarget_26 : decode cX7_findLostTarget 26 = .ok (.aload_n 0, 1) := by decide +kernel
theorem dX7_findLostTarget_27 : decode cX7_findLostTarget 27 = .ok (.getfield 23, 3) := by decide +kernel
theorem dX7_findLostTarget_30 : decode cX7_findLostTarget 30 = .ok (.if_icmp .lt 10, 3) := by decide +kernel
theorem dX7_findLostTarget_33 : decode cX7_findLostTarget 33 = .ok (.aload_n 0, 1) := by decide +kernel
theorem dX7_findLostTarget_34 : decode cX7_findLostTarget 34 = .ok (.getfield 15, 3) := by decide +kernel
theorem dX7_findLostTarget_37 : decode cX7_findLostTarget 37 = .ok (.iload_n 1, 1) := by decide +kernel
theorem dX7_findLostTarget_38 : decode cX7_findLostTarget 38 = .ok (.iaload, 1) := by decide +kernel
theorem dX7_findLostTarget_39 : decode cX7_findLostTarget 39 = .ok (.ireturn, 1) := by decide +kernel
theorem dX7_findLostTarget_40 : decode cX7_findLostTarget 40 = .ok (.iinc 1 1, 3) := by decide +kernel
theorem dX7_findLostTarget_43 : decode cX7_findLostTarget 43 = .ok (.goto (-41), 3) := by decide +kernel
theorem dX7_findLostTarget_46 : decode cX7_findLostTarget 46 = .ok (.bipush (-4), 2) := by decide +kernel
theorem dX7_findLostTarget_48 : decode cX7_findLostTarget 48 = .ok (.ireturn, 1) := by decide +kernel
theorem dX7_widthAt_0 : decode cX7_widthAt 0 = .ok (.ldc 44, 2) := by decide +kernel
theorem dX7_widthAt_2 : decode cX7_widthAt 2 = .ok (.aload_n 0, 1) := by decide +kernel
theorem dX7_widthAt_3 : decode cX7_widthAt 3 = .ok (.getfield 9, 3) := by decide +kernel
theorem dX7_widthAt_6 : decode cX7_widthAt 6 = .ok (.iload_n 1, 1) := by decide +kernel
theorem dX7_widthAt_7 : decode cX7_widthAt 7 = .ok (.caload, 1) := by decide +kernel
theorem dX7_widthAt_8 : decode cX7_widthAt 8 = .ok (.invokevirtual 46, 3) := by decide +kernel
theorem dX7_widthAt_11 : decode cX7_widthAt 11 = .ok (.istore_n 2, 1) := by decide +kernel
theorem dX7_widthAt_12 : decode cX7_widthAt 12 = .ok (.iload_n 2, 1) := by decide +kernel
theorem dX7_widthAt_13 : decode cX7_widthAt 13 = .ok (.ifCond .ge 5, 3) := by decide +kernel
theorem dX7_widthAt_16 : decode cX7_widthAt 16 = .ok (.iconst 0, 1) := by decide +kernel
theorem dX7_widthAt_17 : decode cX7_widthAt 17 = .ok (.ireturn, 1) := by decide +kernel
theorem dX7_widthAt_18 : decode cX7_widthAt 18 = .ok (.iload_n 2, 1) := by decide +kernel
theorem dX7_widthAt_19 : decode cX7_widthAt 19 = .ok (.invokestatic 37, 3) := by decide +kernel
theorem dX7_widthAt_22 : decode cX7_widthAt 22 = .ok (.ifCond .eq 7, 3) := by decide +kernel
theorem dX7_widthAt_25 : decode cX7_widthAt 25 = .ok (.iconst 2, 1) := by decide +kernel
theorem dX7_widthAt_26 : decode cX7_widthAt 26 = .ok (.goto 15, 3) := by decide +kernel
theorem dX7_widthAt_29 : decode cX7_widthAt 29 = .ok (.iload_n 2, 1) := by decide +kernel
theorem dX7_widthAt_30 : decode cX7_widthAt 30 = .ok (.invokestatic 51, 3) := by decide +kernel
theorem dX7_widthAt_33 : decode cX7_widthAt 33 = .ok (.ifCond .eq 7, 3) := by decide +kernel
theorem dX7_widthAt_36 : decode cX7_widthAt 36 = .ok (.iconst 1, 1) := by decide +kernel
theorem dX7_widthAt_37 : decode cX7_widthAt 37 = .ok (.goto 4, 3) := by decide +kernel
theorem dX7_widthAt_40 : decode cX7_widthAt 40 = .ok (.iconst 0, 1) := by decide +kernel
theorem dX7_widthAt_41 : decode cX7_widthAt 41 = .ok (.istore_n 3, 1) := by decide +kernel
theorem dX7_widthAt_42 : decode cX7_widthAt 42 = .ok (.iload_n 1, 1) := by decide +kernel
theorem dX7_widthAt_43 : decode cX7_widthAt 43 = .ok (.iload_n 3, 1) := by decide +kernel
theorem dX7_widthAt_44 : decode cX7_widthAt 44 = .ok (.iadd, 1) := by decide +kernel
theorem dX7_widthAt_45 : decode cX7_widthAt 45 = .ok (.aload_n 0, 1) := by decide +kernel
theorem dX7_widthAt_46 : decode cX7_widthAt 46 = .ok (.getfield 19, 3) := by decide +kernel
theorem dX7_widthAt_49 : decode cX7_widthAt 49 = .ok (.if_icmp .lt 5, 3) := by decide +kernel
theorem dX7_widthAt_52 : decode cX7_widthAt 52 = .ok (.iconst 0, 1) := by decide +kernel
theorem dX7_widthAt_53 : decode cX7_widthAt 53 = .ok (.ireturn, 1) := by decide +kernel
theorem dX7_widthAt_54 : decode cX7_widthAt 54 = .ok (.iconst 1, 1) := by decide +kernel
theorem dX7_widthAt_55 : decode cX7_widthAt 55 = .ok (.istore 4, 2) := by decide +kernel
theorem dX7_widthAt_57 : decode cX7_widthAt 57 = .ok (.iload 4, 2) := by decide +kernel
theorem dX7_widthAt_59 : decode cX7_widthAt 59 = .ok (.iload_n 3, 1) := by decide +kernel
theorem dX7_widthAt_60 : decode cX7_widthAt 60 = .ok (.if_icmp .gt 36, 3) := by decide +kernel
theorem dX7_widthAt_63 : decode cX7_widthAt 63 = .ok (.aload_n 0, 1) := by decide +kernel
theorem dX7_widthAt_64 : decode cX7_widthAt 64 = .ok (.getfield 9, 3) := by decide +kernel
theorem dX7_widthAt_67 : decode cX7_widthAt 67 = .ok (.iload_n 1, 1) := by decide +kernel
theorem dX7_widthAt_68 : decode cX7_widthAt 68 = .ok (.iload 4, 2) := by decide +kernel
theorem dX7_widthAt_70 : decode cX7_widthAt 70 = .ok (.iadd, 1) := by decide +kernel
theorem dX7_widthAt_71 : decode cX7_widthAt 71 = .ok (.caload, 1) := by decide +kernel
theorem dX7_widthAt_72 : decode cX7_widthAt 72 = .ok (.istore 5, 2) := by decide +kernel
theorem dX7_widthAt_74 : decode cX7_widthAt 74 = .ok (.iload 5, 2) := by decide +kernel
theorem dX7_widthAt_76 : decode cX7_widthAt 76 = .ok (.bipush 48, 2) := by decide +kernel
theorem dX7_widthAt_78 : decode cX7_widthAt 78 = .ok (.if_icmp .lt 10, 3) := by decide +kernel
theorem dX7_widthAt_81 : decode cX7_widthAt 81 = .ok (.iload 5, 2) := by decide +kernel
theorem dX7_widthAt_83 : decode cX7_widthAt 83 = .ok (.bipush 57, 2) := by decide +kernel
theorem dX7_widthAt_85 : decode cX7_widthAt 85 = .ok (.if_icmp .le 5, 3) := by decide +kernel
theorem dX7_widthAt_88 : decode cX7_widthAt 88 = .ok (.iconst 0, 1) := by decide +kernel
theorem dX7_widthAt_89 : decode cX7_widthAt 89 = .ok (.ireturn, 1) := by decide +kernel
theorem dX7_widthAt_90 : decode cX7_widthAt 90 = .ok (.iinc 4 1, 3) := by decide +kernel
theorem dX7_widthAt_93 : decode cX7_widthAt 93 = .ok (.goto (-36), 3) := by decide +kernel
theorem dX7_widthAt_96 : decode cX7_widthAt 96 = .ok (.iconst 1, 1) := by decide +kernel
theorem dX7_widthAt_97 : decode cX7_widthAt 97 = .ok (.iload_n 3, 1) := by decide +kernel
theorem dX7_widthAt_98 : decode cX7_widthAt 98 = .ok (.iadd, 1) := by decide +kernel
theorem dX7_widthAt_99 : decode cX7_widthAt 99 = .ok (.ireturn, 1) := by decide +kernel
theorem dX7_kindOf_0 : decode cX7_kindOf 0 = .ok (.ldc 44, 2) := by decide +kernel
theorem dX7_kindOf_2 : decode cX7_kindOf 2 = .ok (.aload_n 0, 1) := by decide +kernel
theorem dX7_kindOf_3 : decode cX7_kindOf 3 = .ok (.getfield 9, 3) := by decide +kernel
theorem dX7_kindOf_6 : decode cX7_kindOf 6 = .ok (.aload_n 0, 1) := by decide +kernel
theorem dX7_kindOf_7 : decode cX7_kindOf 7 = .ok (.getfield 15, 3) := by decide +kernel
theorem dX7_kindOf_10 : decode cX7_kindOf 10 = .ok (.iload_n 1, 1) := by decide +kernel
theorem dX7_kindOf_11 : decode cX7_kindOf 11 = .ok (.iaload, 1) := by decide +kernel
theorem dX7_kindOf_12 : decode cX7_kindOf 12 = .ok (.caload, 1) := by decide +kernel
theorem dX7_kindOf_13 : decode cX7_kindOf 13 = .ok (.invokevirtual 46, 3) := by decide +kernel
theorem dX7_kindOf_16 : decode cX7_kindOf 16 = .ok (.ireturn, 1) := by decide +kernel
theorem dX7_valueOf_0 : decode cX7_valueOf 0 = .ok (.aload_n 0, 1) := by decide +kernel
theorem dX7_valueOf_1 : decode cX7_valueOf 1 = .ok (.iload_n 1, 1) := by decide +kernel
theorem dX7_valueOf_2 : decode cX7_valueOf 2 = .ok (.invokevirtual 34, 3) := by decide +kernel
theorem dX7_valueOf_5 : decode cX7_valueOf 5 = .ok (.istore_n 2, 1) := by decide +kernel
theorem dX7_valueOf_6 : decode cX7_valueOf 6 = .ok (.aload_n 0, 1) := by decide +kernel
theorem dX7_valueOf_7 : decode cX7_valueOf 7 = .ok (.getfield 15, 3) := by decide +kernel
theorem dX7_valueOf_10 : decode cX7_valueOf 10 = .ok (.iload_n 1, 1) := by decide +kernel
theorem dX7_valueOf_11 : decode cX7_valueOf 11 = .ok (.iaload, 1) := by decide +kernel
theorem dX7_valueOf_12 : decode cX7_valueOf 12 = .ok (.istore_n 3, 1) := by decide +kernel
theorem dX7_valueOf_13 : decode cX7_valueOf 13 = .ok (.iload_n 2, 1) := by decide +kernel
theorem dX7_valueOf_14 : decode cX7_valueOf 14 = .ok (.invokestatic 51, 3) := by decide +kernel
theorem dX7_valueOf_17 : decode cX7_valueOf 17 = .ok (.ifCond .eq 15, 3) := by decide +kernel
theorem dX7_valueOf_20 : decode cX7_valueOf 20 = .ok (.aload_n 0, 1) := by decide +kernel
theorem dX7_valueOf_21 : decode cX7_valueOf 21 = .ok (.getfield 9, 3) := by decide +kernel
theorem dX7_valueOf_24 : decode cX7_valueOf 24 = .ok (.iload_n 3, 1) := by decide +kernel
theorem dX7_valueOf_25 : decode cX7_valueOf 25 = .ok (.iconst 1, 1) := by decide +kernel
theorem dX7_valueOf_26 : decode cX7_valueOf 26 = .ok (.iadd, 1) := by decide +kernel
theorem dX7_valueOf_27 : decode cX7_valueOf 27 = .ok (.caload, 1) := by decide +kernel
theorem dX7_valueOf_28 : decode cX7_valueOf 28 = .ok (.bipush 48, 2) := by decide +kernel
theorem dX7_valueOf_30 : decode cX7_valueOf 30 = .ok (.isub, 1) := by decide +kernel
theorem dX7_valueOf_31 : decode cX7_valueOf 31 = .ok (.ireturn, 1) := by decide +kernel
theorem dX7_valueOf_32 : decode cX7_valueOf 32 = .ok (.iload_n 2, 1) := by decide +kernel
theorem dX7_valueOf_33 : decode cX7_valueOf 33 = .ok (.invokestatic 37, 3) := by decide +kernel
theorem dX7_valueOf_36 : decode cX7_valueOf 36 = .ok (.ifCond .eq 30, 3) := by decide +kernel
theorem dX7_valueOf_39 : decode cX7_valueOf 39 = .ok (.bipush 10, 2) := by decide +kernel
theorem dX7_valueOf_41 : decode cX7_valueOf 41 = .ok (.aload_n 0, 1) := by decide +kernel
theorem dX7_valueOf_42 : decode cX7_valueOf 42 = .ok (.getfield 9, 3) := by decide +kernel
theorem dX7_valueOf_45 : decode cX7_valueOf 45 = .ok (.iload_n 3, 1) := by decide +kernel
theorem dX7_valueOf_46 : decode cX7_valueOf 46 = .ok (.iconst 1, 1) := by decide +kernel
theorem dX7_valueOf_47 : decode cX7_valueOf 47 = .ok (.iadd, 1) := by decide +kernel
theorem dX7_valueOf_48 : decode cX7_valueOf 48 = .ok (.caload, 1) := by decide +kernel
theorem dX7_valueOf_49 : decode cX7_valueOf 49 = .ok (.bipush 48, 2) := by decide +kernel
theorem dX7_valueOf_51 : decode cX7_valueOf 51 = .ok (.isub, 1) := by decide +kernel
theorem dX7_valueOf_52 : decode cX7_valueOf 52 = .ok (.imul, 1) := by decide +kernel
theorem dX7_valueOf_53 : decode cX7_valueOf 53 = .ok (.aload_n 0, 1) := by decide +kernel
theorem dX7_valueOf_54 : decode cX7_valueOf 54 = .ok (.getfield 9, 3) := by decide +kernel
theorem dX7_valueOf_57 : decode cX7_valueOf 57 = .ok (.iload_n 3, 1) := by decide +kernel
theorem dX7_valueOf_58 : decode cX7_valueOf 58 = .ok (.iconst 2, 1) := by decide +kernel
theorem dX7_valueOf_59 : decode cX7_valueOf 59 = .ok (.iadd, 1) := by decide +kernel
theorem dX7_valueOf_60 : decode cX7_valueOf 60 = .ok (.caload, 1) := by decide +kernel
theorem dX7_valueOf_61 : decode cX7_valueOf 61 = .ok (.iadd, 1) := by decide +kernel
theorem dX7_valueOf_62 : decode cX7_valueOf 62 = .ok (.bipush 48, 2) := by decide +kernel
theorem dX7_valueOf_64 : decode cX7_valueOf 64 = .ok (.isub, 1) := by decide +kernel
theorem dX7_valueOf_65 : decode cX7_valueOf 65 = .ok (.ireturn, 1) := by decide +kernel
theorem dX7_valueOf_66 : decode cX7_valueOf 66 = .ok (.bipush (-4), 2) := by decide +kernel
theorem dX7_valueOf_68 : decode cX7_valueOf 68 = .ok (.ireturn, 1) := by decide +kernel
theorem dX8_init_0 : decode cX8_init 0 = .ok (.aload_n 0, 1) := by decide +kernel
theorem dX8_init_1 : decode cX8_init 1 = .ok (.invokespecial 3, 3) := by decide +kernel
theorem dX8_init_4 : decode cX8_init 4 = .ok (.aload_n 0, 1) := by decide +kernel
theorem dX8_init_5 : decode cX8_init 5 = .ok (.new 9, 3) := by decide +kernel
theorem dX8_init_8 : decode cX8_init 8 = .ok (.dup, 1) := by decide +kernel
theorem dX8_init_9 : decode cX8_init 9 = .ok (.invokespecial 11, 3) := by decide +kernel
theorem dX8_init_12 : decode cX8_init 12 = .ok (.putfield 12, 3) := by decide +kernel
theorem dX8_init_15 : decode cX8_init 15 = .ok (.aload_n 0, 1) := by decide +kernel
theorem dX8_init_16 : decode cX8_init 16 = .ok (.new 16, 3) := by decide +kernel
theorem dX8_init_19 : decode cX8_init 19 = .ok (.dup, 1) := by decide +kernel
theorem dX8_init_20 : decode cX8_init 20 = .ok (.invokespecial 18, 3) := by decide +kernel
theorem dX8_init_23 : decode cX8_init 23 = .ok (.putfield 19, 3) := by decide +kernel
theorem dX8_init_26 : decode cX8_init 26 = .ok (.aload_n 0, 1) := by decide +kernel
theorem dX8_init_27 : decode cX8_init 27 = .ok (.new 23, 3) := by decide +kernel
theorem dX8_init_30 : decode cX8_init 30 = .ok (.dup, 1) := by decide +kernel
theorem dX8_init_31 : decode cX8_init 31 = .ok (.invokespecial 25, 3) := by decide +kernel
theorem dX8_init_34 : decode cX8_init 34 = .ok (.putfield 26, 3) := by decide +kernel
theorem dX8_init_37 : decode cX8_init 37 = .ok (.aload_n 0, 1) := by decide +kernel
theorem dX8_init_38 : decode cX8_init 38 = .ok (.new 30, 3) := by decide +kernel
theorem dX8_init_41 : decode cX8_init 41 = .ok (.dup, 1) := by decide +kernel
theorem dX8_init_42 : decode cX8_init 42 = .ok (.invokespecial 32, 3) := by decide +kernel
theorem dX8_init_45 : decode cX8_init 45 = .ok (.putfield 33, 3) := by decide +kernel
theorem dX8_init_48 : decode cX8_init 48 = .ok (.aload_n 0, 1) := by decide +kernel
theorem dX8_init_49 : decode cX8_init 49 = .ok (.new 37, 3) := by decide +kernel
theorem dX8_init_52 : decode cX8_init 52 = .ok (.dup, 1) := by decide +kernel
theorem dX8_init_53 : decode cX8_init 53 = .ok (.aload_n 0, 1) := by decide +kernel
theorem dX8_init_54 : decode cX8_init 54 = .ok (.getfield 19, 3) := by decide +kernel
theorem dX8_init_57 : decode cX8_init 57 = .ok (.aload_n 0, 1) := by decide +kernel
theorem dX8_init_58 : decode cX8_init 58 = .ok (.getfield 26, 3) := by decide +kernel
theorem dX8_init_61 : decode cX8_init 61 = .ok (.invokespecial 39, 3) := by decide +kernel
theorem dX8_init_64 : decode cX8_init 64 = .ok (.putfield 42, 3) := by decide +kernel
theorem dX8_init_67 : decode cX8_init 67 = .ok (.aload_n 0, 1) := by decide +kernel
theorem dX8_init_68 : decode cX8_init 68 = .ok (.new 46, 3) := by decide +kernel
theorem dX8_init_71 : decode cX8_init 71 = .ok (.dup, 1) := by decide +kernel
theorem dX8_init_72 : decode cX8_init 72 = .ok (.aload_n 0, 1) := by decide +kernel
theorem dX8_init_73 : decode cX8_init 73 = .ok (.getfield 42, 3) := by decide +kernel
theorem dX8_init_76 : decode cX8_init 76 = .ok (.aload_n 0, 1) := by decide +kernel
theorem dX8_init_77 : decode cX8_init 77 = .ok (.getfield 26, 3) := by decide +kernel
theorem dX8_init_80 : decode cX8_init 80 = .ok (.invokespecial 48, 3) := by decide +kernel
theorem dX8_init_83 : decode cX8_init 83 = .ok (.putfield 51, 3) := by decide +kernel
theorem dX8_init_86 : decode cX8_init 86 = .ok (.aload_n 0, 1) := by decide +kernel
theorem dX8_init_87 : decode cX8_init 87 = .ok (.new 55, 3) := by decide +kernel
theorem dX8_init_90 : decode cX8_init 90 = .ok (.dup, 1) := by decide +kernel
theorem dX8_init_91 : decode cX8_init 91 = .ok (.aload_n 0, 1) := by decide +kernel
theorem dX8_init_92 : decode cX8_init 92 = .ok (.getfield 19, 3) := by decide +kernel
theorem dX8_init_95 : decode cX8_init 95 = .ok (.aload_n 0, 1) := by decide +kernel
theorem dX8_init_96 : decode cX8_init 96 = .ok (.getfield 42, 3) := by decide +kernel
theorem dX8_init_99 : decode cX8_init 99 = .ok (.invokespecial 57, 3) := by decide +kernel
theorem dX8_init_102 : decode cX8_init 102 = .ok (.putfield 60, 3) := by decide +kernel
theorem dX8_init_105 : decode cX8_init 105 = .ok (.iconst 0, 1) := by decide +kernel
theorem dX8_init_106 : decode cX8_init 106 = .ok (.istore_n 1, 1) := by decide +kernel
theorem dX8_init_107 : decode cX8_init 107 = .ok (.iload_n 1, 1) := by decide +kernel
theorem dX8_init_108 : decode cX8_init 108 = .ok (.ldc 64, 2) := by decide +kernel
theorem dX8_init_110 : decode cX8_init 110 = .ok (.invokevirtual 66, 3) := by decide +kernel
theorem dX8_init_113 : decode cX8_init 113 = .ok (.if_icmp .ge 23, 3) := by decide +kernel
theorem dX8_init_116 : decode cX8_init 116 = .ok (.aload_n 0, 1) := by decide +kernel
theorem dX8_init_117 : decode cX8_init 117 = .ok (.getfield 12, 3) := by decide +kernel
theorem dX8_init_120 : decode cX8_init 120 = .ok (.ldc 64, 2) := by decide +kernel
theorem dX8_init_122 : decode cX8_init 122 = .ok (.iload_n 1, 1) := by decide +kernel
theorem dX8_init_123 : decode cX8_init 123 = .ok (.invokevirtual 72, 3) := by decide +kernel
theorem dX8_init_126 : decode cX8_init 126 = .ok (.invokevirtual 76, 3) := by decide +kernel
theorem dX8_init_129 : decode cX8_init 129 = .ok (.pop, 1) := by decide +kernel
theorem dX8_init_130 : decode cX8_init 130 = .ok (.iinc 1 1, 3) := by decide +kernel
theorem dX8_init_133 : decode cX8_init 133 = .ok (.goto (-26), 3) := by decide +kernel
theorem dX8_init_136 : decode cX8_init 136 = .ok (.aload_n 0, 1) := by decide +kernel
theorem dX8_init_137 : decode cX8_init 137 = .ok (.getfield 12, 3) := by decide +kernel
theorem dX8_init_140 : decode cX8_init 140 = .ok (.invokevirtual 80, 3) := by decide +kernel
theorem dX8_init_143 : decode cX8_init 143 = .ok (.bipush (-4), 2) := by decide +kernel
theorem dX8_init_145 : decode cX8_init 145 = .ok (.if_icmp .ne 14, 3) := by decide +kernel
theorem dX8_init_148 : decode cX8_init 148 = .ok (.aload_n 0, 1) := by decide +kernel
theorem dX8_init_149 : decode cX8_init 149 = .ok (.getfield 19, 3) := by decide +kernel
theorem dX8_init_152 : decode cX8_init 152 = .ok (.aload_n 0, 1) := by decide +kernel
theorem dX8_init_153 : decode cX8_init 153 = .ok (.getfield 12, 3) := by decide +kernel
theorem dX8_init_156 : decode cX8_init 156 = .ok (.invokevirtual 83, 3) := by decide +kernel
theorem dX8_init_159 : decode cX8_init 159 = .ok (.aload_n 0, 1) := by decide +kernel
theorem dX8_init_160 : decode cX8_init 160 = .ok (.getfield 12, 3) := by decide +kernel
theorem dX8_init_163 : decode cX8_init 163 = .ok (.invokevirtual 87, 3) := by decide +kernel
theorem dX8_init_166 : decode cX8_init 166 = .ok (.pop, 1) := by decide +kernel
theorem dX8_init_167 : decode cX8_init 167 = .ok (.aload_n 0, 1) := by decide +kernel
theorem dX8_init_168 : decode cX8_init 168 = .ok (.getfield 42, 3) := by decide +kernel
theorem dX8_init_171 : decode cX8_init 171 = .ok (.invokevirtual 90, 3) := by decide +kernel
theorem dX8_init_174 : decode cX8_init 174 = .ok (.return_, 1) := by decide +kernel
theorem dX8_write_0 : decode cX8_write 0 = .ok (.iload_n 1, 1) := by decide +kernel
theorem dX8_write_1 : decode cX8_write 1 = .ok (.bipush 32, 2) := by decide +kernel
theorem dX8_write_3 : decode cX8_write 3 = .ok (.if_icmp .lt 9, 3) := by decide +kernel
theorem dX8_write_6 : decode cX8_write 6 = .ok (.iload_n 1, 1) := by decide +kernel
theorem dX8_write_7 : decode cX8_write 7 = .ok (.bipush 126, 2) := by decide +kernel
theorem dX8_write_9 : decode cX8_write 9 = .ok (.if_icmp .le 5, 3) := by decide +kernel
theorem dX8_write_12 : decode cX8_write 12 = .ok (.iconst (-1), 1) := by decide +kernel
theorem dX8_write_13 : decode cX8_write 13 = .ok (.ireturn, 1) := by decide +kernel
theorem dX8_write_14 : decode cX8_write 14 = .ok (.aload_n 0, 1) := by decide +kernel
theorem dX8_write_15 : decode cX8_write 15 = .ok (.getfield 12, 3) := by decide +kernel
theorem dX8_write_18 : decode cX8_write 18 = .ok (.iload_n 1, 1) := by decide +kernel
theorem dX8_write_19 : decode cX8_write 19 = .ok (.i2c, 1) := by decide +kernel
theorem dX8_write_20 : decode cX8_write 20 = .ok (.invokevirtual 76, 3) := by decide +kernel
theorem dX8_write_23 : decode cX8_write 23 = .ok (.ireturn, 1) := by decide +kernel
theorem dX8_wipe_0 : decode cX8_wipe 0 = .ok (.aload_n 0, 1) := by decide +kernel
theorem dX8_wipe_1 : decode cX8_wipe 1 = .ok (.getfield 12, 3) := by decide +kernel
theorem dX8_wipe_4 : decode cX8_wipe 4 = .ok (.invokevirtual 87, 3) := by decide +kernel
theorem dX8_wipe_7 : decode cX8_wipe 7 = .ok (.ireturn, 1) := by decide +kernel
theorem dX8_fault_0 : decode cX8_fault 0 = .ok (.aload_n 0, 1) := by decide +kernel
theorem dX8_fault_1 : decode cX8_fault 1 = .ok (.getfield 12, 3) := by decide +kernel
theorem dX8_fault_4 : decode cX8_fault 4 = .ok (.invokevirtual 80, 3) := by decide +kernel
theorem dX8_fault_7 : decode cX8_fault 7 = .ok (.ireturn, 1) := by decide +kernel
theorem dX8_lay_0 : decode cX8_lay 0 = .ok (.aload_n 0, 1) := by decide +kernel
theorem dX8_lay_1 : decode cX8_lay 1 = .ok (.getfield 12, 3) := by decide +kernel
theorem dX8_lay_4 : decode cX8_lay 4 = .ok (.invokevirtual 80, 3) := by decide +kernel
theorem dX8_lay_7 : decode cX8_lay 7 = .ok (.bipush (-4), 2) := by decide +kernel
theorem dX8_lay_9 : decode cX8_lay 9 = .ok (.if_icmp .ne 13, 3) := by decide +kernel
theorem dX8_lay_12 : decode cX8_lay 12 = .ok (.aload_n 0, 1) := by decide +kernel
theorem dX8_lay_13 : decode cX8_lay 13 = .ok (.getfield 12, 3) := by decide +kernel
theorem dX8_lay_16 : decode cX8_lay 16 = .ok (.getfield 93, 3) := by decide +kernel
theorem dX8_lay_19 : decode cX8_lay 19 = .ok (.ifCond .ne 6, 3) := by decide +kernel
theorem dX8_lay_22 : decode cX8_lay 22 = .ok (.bipush (-2), 2) := by decide +kernel
theorem dX8_lay_24 : decode cX8_lay 24 = .ok (.ireturn, 1) := by decide +kernel
theorem dX8_lay_25 : decode cX8_lay 25 = .ok (.aload_n 0, 1) := by decide +kernel
theorem dX8_lay_26 : decode cX8_lay 26 = .ok (.getfield 19, 3) := by decide +kernel
theorem dX8_lay_29 : decode cX8_lay 29 = .ok (.aload_n 0, 1) := by decide +kernel
theorem dX8_lay_30 : decode cX8_lay 30 = .ok (.getfield 12, 3) := by decide +kernel
theorem dX8_lay_33 : decode cX8_lay 33 = .ok (.invokevirtual 83, 3) := by decide +kernel
theorem dX8_lay_36 : decode cX8_lay 36 = .ok (.aload_n 0, 1) := by decide +kernel
theorem dX8_lay_37 : decode cX8_lay 37 = .ok (.getfield 26, 3) := by decide +kernel
theorem dX8_lay_40 : decode cX8_lay 40 = .ok (.iconst 0, 1) := by decide +kernel
theorem dX8_lay_41 : decode cX8_lay 41 = .ok (.putfield 97, 3) := by decide +kernel
theorem dX8_lay_44 : decode cX8_lay 44 = .ok (.aload_n 0, 1) := by decide +kernel
theorem dX8_lay_45 : decode cX8_lay 45 = .ok (.getfield 33, 3) := by decide +kernel
theorem dX8_lay_48 : decode cX8_lay 48 = .ok (.iconst 0, 1) := by decide +kernel
theorem dX8_lay_49 : decode cX8_lay 49 = .ok (.putfield 100, 3) := by decide +kernel
theorem dX8_lay_52 : decode cX8_lay 52 = .ok (.aload_n 0, 1) := by decide +kernel
theorem dX8_lay_53 : decode cX8_lay 53 = .ok (.invokevirtual 103, 3) := by decide +kernel
theorem dX8_lay_56 : decode cX8_lay 56 = .ok (.aload_n 0, 1) := by decide +kernel
theorem dX8_lay_57 : decode cX8_lay 57 = .ok (.getfield 19, 3) := by decide +kernel
theorem dX8_lay_60 : decode cX8_lay 60 = .ok (.getfield 106, 3) := by decide +kernel
theorem dX8_lay_63 : decode cX8_lay 63 = .ok (.ireturn, 1) := by decide +kernel
theorem dX8_code_0 : decode cX8_code 0 = .ok (.aload_n 0, 1) := by decide +kernel
theorem dX8_code_1 : decode cX8_code 1 = .ok (.getfield 19, 3) := by decide +kernel
theorem dX8_code_4 : decode cX8_code 4 = .ok (.iload_n 1, 1) := by decide +kernel
theorem dX8_code_5 : decode cX8_code 5 = .ok (.invokevirtual 108, 3) := by decide +kernel
theorem dX8_code_8 : decode cX8_code 8 = .ok (.ifCond .ne 5, 3) := by decide +kernel
theorem dX8_code_11 : decode cX8_code 11 = .ok (.iconst (-1), 1) := by decide +kernel
theorem dX8_code_12 : decode cX8_code 12 = .ok (.ireturn, 1) := by decide +kernel
theorem dX8_code_13 : decode cX8_code 13 = .ok (.iload_n 2, 1) := by decide +kernel
theorem dX8_code_14 : decode cX8_code 14 = .ok (.tableswitch 95 0 4 #[34, 47, 57, 75, 85], 34) := by decide +kernel
theorem dX8_code_48 : decode cX8_code 48 = .ok (.aload_n 0, 1) := by decide +kernel
theorem dX8_code_49 : decode cX8_code 49 = .ok (.getfield 19, 3) := by decide +kernel
theorem dX8_code_52 : decode cX8_code 52 = .ok (.getfield 112, 3) := by decide +kernel
theorem dX8_code_55 : decode cX8_code 55 = .ok (.iload_n 1, 1) := by decide +kernel
theorem dX8_code_56 : decode cX8_code 56 = .ok (.iaload, 1) := by decide +kernel
theorem dX8_code_57 : decode cX8_code 57 = .ok (.invokestatic 116, 3) := by decide +kernel
theorem dX8_code_60 : decode cX8_code 60 = .ok (.ireturn, 1) := by decide +kernel
theorem dX8_code_61 : decode cX8_code 61 = .ok (.aload_n 0, 1) := by decide +kernel
theorem dX8_code_62 : decode cX8_code 62 = .ok (.getfield 19, 3) := by decide +kernel
theorem dX8_code_65 : decode cX8_code 65 = .ok (.getfield 120, 3) := by decide +kernel
theorem dX8_code_68 : decode cX8_code 68 = .ok (.iload_n 1, 1) := by decide +kernel
theorem dX8_code_69 : decode cX8_code 69 = .ok (.iaload, 1) := by decide +kernel
theorem dX8_code_70 : decode cX8_code 70 = .ok (.ireturn, 1) := by decide +kernel
theorem dX8_code_71 : decode cX8_code 71 = .ok (.aload_n 0, 1) := by decide +kernel
theorem dX8_code_72 : decode cX8_code 72 = .ok (.getfield 19, 3) := by decide +kernel
theorem dX8_code_75 : decode cX8_code 75 = .ok (.getfield 123, 3) := by decide +kernel
theorem dX8_code_78 : decode cX8_code 78 = .ok (.iload_n 1, 1) := by decide +kernel
theorem dX8_code_79 : decode cX8_code 79 = .ok (.baload, 1) := by decide +kernel
theorem dX8_code_80 : decode cX8_code 80 = .ok (.ifCond .eq 7, 3) := by decide +kernel
theorem dX8_code_83 : decode cX8_code 83 = .ok (.iconst 1, 1) := by decide +kernel
theorem dX8_code_84 : decode cX8_code 84 = .ok (.goto 4, 3) := by decide +kernel
theorem dX8_code_87 : decode cX8_code 87 = .ok (.iconst 0, 1) := by decide +kernel
theorem dX8_code_88 : decode cX8_code 88 = .ok (.ireturn, 1) := by decide +kernel
theorem dX8_code_89 : decode cX8_code 89 = .ok (.aload_n 0, 1) := by decide +kernel
theorem dX8_code_90 : decode cX8_code 90 = .ok (.getfield 42, 3) := by decide +kernel
theorem dX8_code_93 : decode cX8_code 93 = .ok (.getfield 127, 3) := by decide +kernel
theorem dX8_code_96 : decode cX8_code 96 = .ok (.iload_n 1, 1) := by decide +kernel
theorem dX8_code_97 : decode cX8_code 97 = .ok (.iaload, 1) := by decide +kernel
theorem dX8_code_98 : decode cX8_code 98 = .ok (.ireturn, 1) := by decide +kernel
theorem dX8_code_99 : decode cX8_code 99 = .ok (.aload_n 0, 1) := by decide +kernel
theorem dX8_code_100 : decode cX8_code 100 = .ok (.getfield 42, 3) := by decide +kernel
theorem dX8_code_103 : decode cX8_code 103 = .ok (.getfield 130, 3) := by decide +kernel
theorem dX8_code_106 : decode cX8_code 106 = .ok (.iload_n 1, 1) := by decide +kernel
theorem dX8_code_107 : decode cX8_code 107 = .ok (.iaload, 1) := by decide +kernel
theorem dX8_code_108 : decode cX8_code 108 = .ok (.ireturn, 1) := by decide +kernel
theorem dX8_code_109 : decode cX8_code 109 = .ok (.iconst (-1), 1) := by decide +kernel
theorem dX8_code_110 : decode cX8_code 110 = .ok (.ireturn, 1) := by decide +kernel
theorem dX8_add_0 : decode cX8_add 0 = .ok (.aload_n 0, 1) := by decide +kernel
theorem dX8_add_1 : decode cX8_add 1 = .ok (.iload_n 1, 1) := by decide +kernel
theorem dX8_add_2 : decode cX8_add 2 = .ok (.iload_n 2, 1) := by decide +kernel
theorem dX8_add_3 : decode cX8_add 3 = .ok (.iload_n 3, 1) := by decide +kernel
theorem dX8_add_4 : decode cX8_add 4 = .ok (.invokevirtual 133, 3) := by decide +kernel
theorem dX8_add_7 : decode cX8_add 7 = .ok (.istore 4, 2) := by decide +kernel
theorem dX8_add_9 : decode cX8_add 9 = .ok (.iload 4, 2) := by decide +kernel
theorem dX8_add_11 : decode cX8_add 11 = .ok (.ifCond .eq 6, 3) := by decide +kernel
theorem dX8_add_14 : decode cX8_add 14 = .ok (.iload 4, 2) := by decide +kernel
theorem dX8_add_16 : decode cX8_add 16 = .ok (.ireturn, 1) := by decide +kernel
theorem dX8_add_17 : decode cX8_add 17 = .ok (.aload_n 0, 1) := by decide +kernel
theorem dX8_add_18 : decode cX8_add 18 = .ok (.getfield 33, 3) := by decide +kernel
theorem dX8_add_21 : decode cX8_add 21 = .ok (.aload_n 0, 1) := by decide +kernel
theorem dX8_add_22 : decode cX8_add 22 = .ok (.getfield 26, 3) := by decide +kernel
theorem dX8_add_25 : decode cX8_add 25 = .ok (.invokevirtual 137, 3) := by decide +kernel
theorem dX8_add_28 : decode cX8_add 28 = .ok (.aload_n 0, 1) := by decide +kernel
theorem dX8_add_29 : decode cX8_add 29 = .ok (.getfield 26, 3) := by decide +kernel
theorem dX8_add_32 : decode cX8_add 32 = .ok (.getfield 97, 3) := by decide +kernel
theorem dX8_add_35 : decode cX8_add 35 = .ok (.istore 5, 2) := by decide +kernel
theorem dX8_add_37 : decode cX8_add 37 = .ok (.aload_n 0, 1) := by decide +kernel
theorem dX8_add_38 : decode cX8_add 38 = .ok (.getfield 26, 3) := by decide +kernel
theorem dX8_add_41 : decode cX8_add 41 = .ok (.aload_n 0, 1) := by decide +kernel
theorem dX8_add_42 : decode cX8_add 42 = .ok (.getfield 19, 3) := by decide +kernel
theorem dX8_add_45 : decode cX8_add 45 = .ok (.iload_n 1, 1) := by decide +kernel
theorem dX8_add_46 : decode cX8_add 46 = .ok (.iload_n 2, 1) := by decide +kernel
theorem dX8_add_47 : decode cX8_add 47 = .ok (.iload_n 3, 1) := by decide +kernel
theorem dX8_add_48 : decode cX8_add 48 = .ok (.invokevirtual 141, 3) := by decide +kernel
theorem dX8_add_51 : decode cX8_add 51 = .ok (.aload_n 0, 1) := by decide +kernel
theorem dX8_add_52 : decode cX8_add 52 = .ok (.invokevirtual 103, 3) := by decide +kernel
theorem dX8_add_55 : decode cX8_add 55 = .ok (.iload 5, 2) := by decide +kernel
theorem dX8_add_57 : decode cX8_add 57 = .ok (.ireturn, 1) := by decide +kernel
theorem dX8_drop_0 : decode cX8_drop 0 = .ok (.aload_n 0, 1) := by decide +kernel
theorem dX8_drop_1 : decode cX8_drop 1 = .ok (.getfield 26, 3) := by decide +kernel
theorem dX8_drop_4 : decode cX8_drop 4 = .ok (.iload_n 1, 1) := by decide +kernel
theorem dX8_drop_5 : decode cX8_drop 5 = .ok (.invokevirtual 144, 3) := by decide +kernel
theorem dX8_drop_8 : decode cX8_drop 8 = .ok (.ifCond .ne 5, 3) := by decide +kernel
theorem dX8_drop_11 : decode cX8_drop 11 = .ok (.iconst (-1), 1) := by decide +kernel
theorem dX8_drop_12 : decode cX8_drop 12 = .ok (.ireturn, 1) := by decide +kernel
theorem dX8_drop_13 : decode cX8_drop 13 = .ok (.aload_n 0, 1) := by decide +kernel
theorem dX8_drop_14 : decode cX8_drop 14 = .ok (.getfield 33, 3) := by decide +kernel
theorem dX8_drop_17 : decode cX8_drop 17 = .ok (.aload_n 0, 1) := by decide +kernel
theorem dX8_drop_18 : decode cX8_drop 18 = .ok (.getfield 26, 3) := by decide +kernel
theorem dX8_drop_21 : decode cX8_drop 21 = .ok (.invokevirtual 137, 3) := by decide +kernel
theorem dX8_drop_24 : decode cX8_drop 24 = .ok (.aload_n 0, 1) := by decide +kernel
theorem dX8_drop_25 : decode cX8_drop 25 = .ok (.getfield 26, 3) := by decide +kernel
theorem dX8_drop_28 : decode cX8_drop 28 = .ok (.iload_n 1, 1) := by decide +kernel
theorem dX8_drop_29 : decode cX8_drop 29 = .ok (.invokevirtual 145, 3) := by decide +kernel
theorem dX8_drop_32 : decode cX8_drop 32 = .ok (.aload_n 0, 1) := by decide +kernel
theorem dX8_drop_33 : decode cX8_drop 33 = .ok (.invokevirtual 103, 3) := by decide +kernel
theorem dX8_drop_36 : decode cX8_drop 36 = .ok (.aload_n 0, 1) := by decide +kernel
theorem dX8_drop_37 : decode cX8_drop 37 = .ok (.getfield 26, 3) := by decide +kernel
theorem dX8_drop_40 : decode cX8_drop 40 = .ok (.getfield 97, 3) := by decide +kernel
theorem dX8_drop_43 : decode cX8_drop 43 = .ok (.ireturn, 1) := by decide +kernel
theorem dX8_gain_0 : decode cX8_gain 0 = .ok (.aload_n 0, 1) := by decide +kernel
theorem dX8_gain_1 : decode cX8_gain 1 = .ok (.iload_n 1, 1) := by decide +kernel
theorem dX8_gain_2 : decode cX8_gain 2 = .ok (.iload_n 2, 1) := by decide +kernel
theorem dX8_gain_3 : decode cX8_gain 3 = .ok (.iload_n 3, 1) := by decide +kernel
theorem dX8_gain_4 : decode cX8_gain 4 = .ok (.invokevirtual 133, 3) := by decide +kernel
theorem dX8_gain_7 : decode cX8_gain 7 = .ok (.istore 4, 2) := by decide +kernel
theorem dX8_gain_9 : decode cX8_gain 9 = .ok (.iload 4, 2) := by decide +kernel
theorem dX8_gain_11 : decode cX8_gain 11 = .ok (.ifCond .eq 6, 3) := by decide +kernel
theorem dX8_gain_14 : decode cX8_gain 14 = .ok (.iload 4, 2) := by decide +kernel
theorem dX8_gain_16 : decode cX8_gain 16 = .ok (.ireturn, 1) := by decide +kernel
theorem dX8_gain_17 : decode cX8_gain 17 = .ok (.aload_n 0, 1) := by decide +kernel
theorem dX8_gain_18 : decode cX8_gain 18 = .ok (.getfield 42, 3) := by decide +kernel
theorem dX8_gain_21 : decode cX8_gain 21 = .ok (.iload_n 1, 1) := by decide +kernel
theorem dX8_gain_22 : decode cX8_gain 22 = .ok (.iload_n 2, 1) := by decide +kernel
theorem dX8_gain_23 : decode cX8_gain 23 = .ok (.iload_n 3, 1) := by decide +kernel
theorem dX8_gain_24 : decode cX8_gain 24 = .ok (.invokevirtual 149, 3) := by decide +kernel
theorem dX8_gain_27 : decode cX8_gain 27 = .ok (.ldc 152, 2) := by decide +kernel
theorem dX8_gain_29 : decode cX8_gain 29 = .ok (.iadd, 1) := by decide +kernel
theorem dX8_gain_30 : decode cX8_gain 30 = .ok (.ireturn, 1) := by decide +kernel
theorem dX8_choose_0 : decode cX8_choose 0 = .ok (.iload_n 1, 1) := by decide +kernel
theorem dX8_choose_1 : decode cX8_choose 1 = .ok (.iconst 1, 1) := by decide +kernel
theorem dX8_choose_2 : decode cX8_choose 2 = .ok (.if_icmp .lt 9, 3) := by decide +kernel
theorem dX8_choose_5 : decode cX8_choose 5 = .ok (.iload_n 1, 1) := by decide +kernel
theorem dX8_choose_6 : decode cX8_choose 6 = .ok (.bipush 8, 2) := by decide +kernel
theorem dX8_choose_8 : decode cX8_choose 8 = .ok (.if_icmp .le 5, 3) := by decide +kernel
theorem dX8_choose_11 : decode cX8_choose 11 = .ok (.iconst (-1), 1) := by decide +kernel
theorem dX8_choose_12 : decode cX8_choose 12 = .ok (.ireturn, 1) := by decide +kernel
theorem dX8_choose_13 : decode cX8_choose 13 = .ok (.aload_n 0, 1) := by decide +kernel
theorem dX8_choose_14 : decode cX8_choose 14 = .ok (.getfield 51, 3) := by decide +kernel
theorem dX8_choose_17 : decode cX8_choose 17 = .ok (.invokevirtual 153, 3) := by decide +kernel
theorem dX8_choose_20 : decode cX8_choose 20 = .ok (.istore_n 2, 1) := by decide +kernel
theorem dX8_choose_21 : decode cX8_choose 21 = .ok (.iload_n 2, 1) := by decide +kernel
theorem dX8_choose_22 : decode cX8_choose 22 = .ok (.ifCond .ne 6, 3) := by decide +kernel
theorem dX8_choose_25 : decode cX8_choose 25 = .ok (.bipush (-2), 2) := by decide +kernel
theorem dX8_choose_27 : decode cX8_choose 27 = .ok (.ireturn, 1) := by decide +kernel
theorem dX8_choose_28 : decode cX8_choose 28 = .ok (.aload_n 0, 1) := by decide +kernel
theorem dX8_choose_29 : decode cX8_choose 29 = .ok (.getfield 33, 3) := by decide +kernel
theorem dX8_choose_32 : decode cX8_choose 32 = .ok (.aload_n 0, 1) := by decide +kernel
theorem dX8_choose_33 : decode cX8_choose 33 = .ok (.getfield 26, 3) := by decide +kernel
theorem dX8_choose_36 : decode cX8_choose 36 = .ok (.invokevirtual 137, 3) := by decide +kernel
theorem dX8_choose_39 : decode cX8_choose 39 = .ok (.aload_n 0, 1) := by decide +kernel
theorem dX8_choose_40 : decode cX8_choose 40 = .ok (.getfield 26, 3) := by decide +kernel
theorem dX8_choose_43 : decode cX8_choose 43 = .ok (.getfield 97, 3) := by decide +kernel
theorem dX8_choose_46 : decode cX8_choose 46 = .ok (.istore_n 3, 1) := by decide +kernel
theorem dX8_choose_47 : decode cX8_choose 47 = .ok (.iconst 0, 1) := by decide +kernel
theorem dX8_choose_48 : decode cX8_choose 48 = .ok (.istore 4, 2) := by decide +kernel
theorem dX8_choose_50 : decode cX8_choose 50 = .ok (.iload 4, 2) := by decide +kernel
theorem dX8_choose_52 : decode cX8_choose 52 = .ok (.iload_n 1, 1) := by decide +kernel
theorem dX8_choose_53 : decode cX8_choose 53 = .ok (.if_icmp .ge 60, 3) := by decide +kernel
theorem dX8_choose_56 : decode cX8_choose 56 = .ok (.iload_n 2, 1) := by decide +kernel
theorem dX8_choose_57 : decode cX8_choose 57 = .ok (.ifCond .eq 56, 3) := by decide +kernel
theorem dX8_choose_60 : decode cX8_choose 60 = .ok (.aload_n 0, 1) := by decide +kernel
theorem dX8_choose_61 : decode cX8_choose 61 = .ok (.getfield 26, 3) := by decide +kernel
theorem dX8_choose_64 : decode cX8_choose 64 = .ok (.aload_n 0, 1) := by decide +kernel
theorem dX8_choose_65 : decode cX8_choose 65 = .ok (.getfield 19, 3) := by decide +kernel
theorem dX8_choose_68 : decode cX8_choose 68 = .ok (.aload_n 0, 1) := by decide +kernel
theorem dX8_choose_69 : decode cX8_choose 69 = .ok (.getfield 51, 3) := by decide +kernel
theorem dX8_choose_72 : decode cX8_choose 72 = .ok (.getfield 157, 3) := by decide +kernel
theorem dX8_choose_75 : decode cX8_choose 75 = .ok (.aload_n 0, 1) := by decide +kernel
theorem dX8_choose_76 : decode cX8_choose 76 = .ok (.getfield 51, 3) := by decide +kernel
theorem dX8_choose_79 : decode cX8_choose 79 = .ok (.getfield 160, 3) := by decide +kernel
theorem dX8_choose_82 : decode cX8_choose 82 = .ok (.aload_n 0, 1) := by decide +kernel
theorem dX8_choose_83 : decode cX8_choose 83 = .ok (.getfield 51, 3) := by decide +kernel
theorem dX8_choose_86 : decode cX8_choose 86 = .ok (.getfield 163, 3) := by decide +kernel
theorem dX8_choose_89 : decode cX8_choose 89 = .ok (.invokevirtual 141, 3) := by decide +kernel
theorem dX8_choose_92 : decode cX8_choose 92 = .ok (.aload_n 0, 1) := by decide +kernel
theorem dX8_choose_93 : decode cX8_choose 93 = .ok (.getfield 42, 3) := by decide +kernel
theorem dX8_choose_96 : decode cX8_choose 96 = .ok (.invokevirtual 90, 3) := by decide +kernel
theorem dX8_choose_99 : decode cX8_choose 99 = .ok (.aload_n 0, 1) := by decide +kernel
theorem dX8_choose_100 : decode cX8_choose 100 = .ok (.getfield 51, 3) := by decide +kernel
theorem dX8_choose_103 : decode cX8_choose 103 = .ok (.invokevirtual 153, 3) := by decide +kernel
theorem dX8_choose_106 : decode cX8_choose 106 = .ok (.istore_n 2, 1) := by decide +kernel
theorem dX8_choose_107 : decode cX8_choose 107 = .ok (.iinc 4 1, 3) := by decide +kernel
theorem dX8_choose_110 : decode cX8_choose 110 = .ok (.goto (-60), 3) := by decide +kernel
theorem dX8_choose_113 : decode cX8_choose 113 = .ok (.aload_n 0, 1) := by decide +kernel
theorem dX8_choose_114 : decode cX8_choose 114 = .ok (.getfield 60, 3) := by decide +kernel
theorem dX8_choose_117 : decode cX8_choose 117 = .ok (.invokevirtual 166, 3) := by decide +kernel
theorem dX8_choose_120 : decode cX8_choose 120 = .ok (.aload_n 0, 1) := by decide +kernel
theorem dX8_choose_121 : decode cX8_choose 121 = .ok (.getfield 26, 3) := by decide +kernel
theorem dX8_choose_124 : decode cX8_choose 124 = .ok (.getfield 97, 3) := by decide +kernel
theorem dX8_choose_127 : decode cX8_choose 127 = .ok (.iload_n 3, 1) := by decide +kernel
theorem dX8_choose_128 : decode cX8_choose 128 = .ok (.isub, 1) := by decide +kernel
theorem dX8_choose_129 : decode cX8_choose 129 = .ok (.ireturn, 1) := by decide +kernel
theorem dX8_entry_0 : decode cX8_entry 0 = .ok (.aload_n 0, 1) := by decide +kernel
theorem dX8_entry_1 : decode cX8_entry 1 = .ok (.getfield 26, 3) := by decide +kernel
theorem dX8_entry_4 : decode cX8_entry 4 = .ok (.iload_n 1, 1) := by decide +kernel
theorem dX8_entry_5 : decode cX8_entry 5 = .ok (.invokevirtual 144, 3) := by decide +kernel
theorem dX8_entry_8 : decode cX8_entry 8 = .ok (.ifCond .ne 5, 3) := by decide +kernel
theorem dX8_entry_11 : decode cX8_entry 11 = .ok (.iconst (-1), 1) := by decide +kernel
theorem dX8_entry_12 : decode cX8_entry 12 = .ok (.ireturn, 1) := by decide +kernel
theorem dX8_entry_13 : decode cX8_entry 13 = .ok (.aload_n 0, 1) := by decide +kernel
theorem dX8_entry_14 : decode cX8_entry 14 = .ok (.getfield 26, 3) := by decide +kernel
theorem dX8_entry_17 : decode cX8_entry 17 = .ok (.getfield 169, 3) := by decide +kernel
theorem dX8_entry_20 : decode cX8_entry 20 = .ok (.iload_n 1, 1) := by decide +kernel
theorem dX8_entry_21 : decode cX8_entry 21 = .ok (.aaload, 1) := by decide +kernel
theorem dX8_entry_22 : decode cX8_entry 22 = .ok (.astore_n 3, 1) := by decide +kernel
theorem dX8_entry_23 : decode cX8_entry 23 = .ok (.iload_n 2, 1) := by decide +kernel
theorem dX8_entry_24 : decode cX8_entry 24 = .ok (.tableswitch 60 0 3 #[32, 37, 42, 51], 32) := by decide +kernel
theorem dX8_entry_56 : decode cX8_entry 56 = .ok (.aload_n 3, 1) := by decide +kernel
theorem dX8_entry_57 : decode cX8_entry 57 = .ok (.getfield 173, 3) := by decide +kernel
theorem dX8_entry_60 : decode cX8_entry 60 = .ok (.ireturn, 1) := by decide +kernel
theorem dX8_entry_61 : decode cX8_entry 61 = .ok (.aload_n 3, 1) := by decide +kernel
theorem dX8_entry_62 : decode cX8_entry 62 = .ok (.getfield 176, 3) := by decide +kernel
theorem dX8_entry_65 : decode cX8_entry 65 = .ok (.ireturn, 1) := by decide +kernel
theorem dX8_entry_66 : decode cX8_entry 66 = .ok (.aload_n 0, 1) := by decide +kernel
theorem dX8_entry_67 : decode cX8_entry 67 = .ok (.getfield 42, 3) := by decide +kernel
theorem dX8_entry_70 : decode cX8_entry 70 = .ok (.iload_n 1, 1) := by decide +kernel
theorem dX8_entry_71 : decode cX8_entry 71 = .ok (.invokevirtual 177, 3) := by decide +kernel
theorem dX8_entry_74 : decode cX8_entry 74 = .ok (.ireturn, 1) := by decide +kernel
theorem dX8_entry_75 : decode cX8_entry 75 = .ok (.aload_n 0, 1) := by decide +kernel
theorem dX8_entry_76 : decode cX8_entry 76 = .ok (.getfield 42, 3) := by decide +kernel
theorem dX8_entry_79 : decode cX8_entry 79 = .ok (.aload_n 3, 1) := by decide +kernel
theorem dX8_entry_80 : decode cX8_entry 80 = .ok (.invokevirtual 180, 3) := by decide +kernel
theorem dX8_entry_83 : decode cX8_entry 83 = .ok (.ireturn, 1) := by decide +kernel
theorem dX8_entry_84 : decode cX8_entry 84 = .ok (.iconst (-1), 1) := by decide +kernel
theorem dX8_entry_85 : decode cX8_entry 85 = .ok (.ireturn, 1) := by decide +kernel
theorem dX8_part_0 : decode cX8_part 0 = .ok (.aload_n 0, 1) := by decide +kernel
theorem dX8_part_1 : decode cX8_part 1 = .ok (.getfield 26, 3) := by decide +kernel
theorem dX8_part_4 : decode cX8_part 4 = .ok (.iload_n 1, 1) := by decide +kernel
theorem dX8_part_5 : decode cX8_part 5 = .ok (.invokevirtual 144, 3) := by decide +kernel
theorem dX8_part_8 : decode cX8_part 8 = .ok (.ifCond .eq 16, 3) := by decide +kernel
theorem dX8_part_11 : decode cX8_part 11 = .ok (.iload_n 2, 1) := by decide +kernel
theorem dX8_part_12 : decode cX8_part 12 = .ok (.ifCond .lt 12, 3) := by decide +kernel
theorem dX8_part_15 : decode cX8_part 15 = .ok (.iload_n 3, 1) := by decide +kernel
theorem dX8_part_16 : decode cX8_part 16 = .ok (.ifCond .lt 8, 3) := by decide +kernel
theorem dX8_part_19 : decode cX8_part 19 = .ok (.iload_n 3, 1) := by decide +kernel
theorem dX8_part_20 : decode cX8_part 20 = .ok (.iconst 1, 1) := by decide +kernel
theorem dX8_part_21 : decode cX8_part 21 = .ok (.if_icmp .le 5, 3) := by decide +kernel
theorem dX8_part_24 : decode cX8_part 24 = .ok (.iconst (-1), 1) := by decide +kernel
theorem dX8_part_25 : decode cX8_part 25 = .ok (.ireturn, 1) := by decide +kernel
theorem dX8_part_26 : decode cX8_part 26 = .ok (.aload_n 0, 1) := by decide +kernel
theorem dX8_part_27 : decode cX8_part 27 = .ok (.getfield 26, 3) := by decide +kernel
theorem dX8_part_30 : decode cX8_part 30 = .ok (.getfield 169, 3) := by decide +kernel
theorem dX8_part_33 : decode cX8_part 33 = .ok (.iload_n 1, 1) := by decide +kernel
theorem dX8_part_34 : decode cX8_part 34 = .ok (.aaload, 1) := by decide +kernel
theorem dX8_part_35 : decode cX8_part 35 = .ok (.astore 4, 2) := by decide +kernel
theorem dX8_part_37 : decode cX8_part 37 = .ok (.iload_n 2, 1) := by decide +kernel
theorem dX8_part_38 : decode cX8_part 38 = .ok (.aload 4, 2) := by decide +kernel
theorem dX8_part_40 : decode cX8_part 40 = .ok (.getfield 173, 3) := by decide +kernel
theorem dX8_part_43 : decode cX8_part 43 = .ok (.if_icmp .lt 6, 3) := by decide +kernel
theorem dX8_part_46 : decode cX8_part 46 = .ok (.bipush (-4), 2) := by decide +kernel
theorem dX8_part_48 : decode cX8_part 48 = .ok (.ireturn, 1) := by decide +kernel
theorem dX8_part_49 : decode cX8_part 49 = .ok (.iload_n 3, 1) := by decide +kernel
theorem dX8_part_50 : decode cX8_part 50 = .ok (.ifCond .ne 14, 3) := by decide +kernel
theorem dX8_part_53 : decode cX8_part 53 = .ok (.aload 4, 2) := by decide +kernel
theorem dX8_part_55 : decode cX8_part 55 = .ok (.getfield 184, 3) := by decide +kernel
theorem dX8_part_58 : decode cX8_part 58 = .ok (.iload_n 2, 1) := by decide +kernel
theorem dX8_part_59 : decode cX8_part 59 = .ok (.iaload, 1) := by decide +kernel
theorem dX8_part_60 : decode cX8_part 60 = .ok (.invokestatic 116, 3) := by decide +kernel
theorem dX8_part_63 : decode cX8_part 63 = .ok (.ireturn, 1) := by decide +kernel
theorem dX8_part_64 : decode cX8_part 64 = .ok (.iload_n 2, 1) := by decide +kernel
theorem dX8_part_65 : decode cX8_part 65 = .ok (.aload 4, 2) := by decide +kernel
theorem dX8_part_67 : decode cX8_part 67 = .ok (.getfield 176, 3) := by decide +kernel
theorem dX8_part_70 : decode cX8_part 70 = .ok (.if_icmp .ne 8, 3) := by decide +kernel
theorem dX8_part_73 : decode cX8_part 73 = .ok (.bipush (-4), 2) := by decide +kernel
theorem dX8_part_75 : decode cX8_part 75 = .ok (.goto 10, 3) := by decide +kernel
theorem dX8_part_78 : decode cX8_part 78 = .ok (.aload 4, 2) := by decide +kernel
theorem dX8_part_80 : decode cX8_part 80 = .ok (.getfield 185, 3) := by decide +kernel
theorem dX8_part_83 : decode cX8_part 83 = .ok (.iload_n 2, 1) := by decide +kernel
theorem dX8_part_84 : decode cX8_part 84 = .ok (.iaload, 1) := by decide +kernel
theorem dX8_part_85 : decode cX8_part 85 = .ok (.ireturn, 1) := by decide +kernel
theorem dX8_wide_0 : decode cX8_wide 0 = .ok (.iload_n 1, 1) := by decide +kernel
theorem dX8_wide_1 : decode cX8_wide 1 = .ok (.iconst 4, 1) := by decide +kernel
theorem dX8_wide_2 : decode cX8_wide 2 = .ok (.if_icmp .eq 17, 3) := by decide +kernel
theorem dX8_wide_5 : decode cX8_wide 5 = .ok (.iload_n 1, 1) := by decide +kernel
theorem dX8_wide_6 : decode cX8_wide 6 = .ok (.bipush 8, 2) := by decide +kernel
theorem dX8_wide_8 : decode cX8_wide 8 = .ok (.if_icmp .eq 11, 3) := by decide +kernel
theorem dX8_wide_11 : decode cX8_wide 11 = .ok (.iload_n 1, 1) := by decide +kernel
theorem dX8_wide_12 : decode cX8_wide 12 = .ok (.bipush 16, 2) := by decide +kernel
theorem dX8_wide_14 : decode cX8_wide 14 = .ok (.if_icmp .eq 5, 3) := by decide +kernel
theorem dX8_wide_17 : decode cX8_wide 17 = .ok (.iconst (-1), 1) := by decide +kernel
theorem dX8_wide_18 : decode cX8_wide 18 = .ok (.ireturn, 1) := by decide +kernel
theorem dX8_wide_19 : decode cX8_wide 19 = .ok (.aload_n 0, 1) := by decide +kernel
theorem dX8_wide_20 : decode cX8_wide 20 = .ok (.getfield 26, 3) := by decide +kernel
theorem dX8_wide_23 : decode cX8_wide 23 = .ok (.getfield 186, 3) := by decide +kernel
theorem dX8_wide_26 : decode cX8_wide 26 = .ok (.istore_n 2, 1) := by decide +kernel
theorem dX8_wide_27 : decode cX8_wide 27 = .ok (.iload_n 1, 1) := by decide +kernel
theorem dX8_wide_28 : decode cX8_wide 28 = .ok (.iload_n 2, 1) := by decide +kernel
theorem dX8_wide_29 : decode cX8_wide 29 = .ok (.if_icmp .ne 6, 3) := by decide +kernel
theorem dX8_wide_32 : decode cX8_wide 32 = .ok (.bipush (-2), 2) := by decide +kernel
theorem dX8_wide_34 : decode cX8_wide 34 = .ok (.ireturn, 1) := by decide +kernel
theorem dX8_wide_35 : decode cX8_wide 35 = .ok (.aload_n 0, 1) := by decide +kernel
theorem dX8_wide_36 : decode cX8_wide 36 = .ok (.getfield 33, 3) := by decide +kernel
theorem dX8_wide_39 : decode cX8_wide 39 = .ok (.aload_n 0, 1) := by decide +kernel
theorem dX8_wide_40 : decode cX8_wide 40 = .ok (.getfield 26, 3) := by decide +kernel
theorem dX8_wide_43 : decode cX8_wide 43 = .ok (.invokevirtual 137, 3) := by decide +kernel
theorem dX8_wide_46 : decode cX8_wide 46 = .ok (.aload_n 0, 1) := by decide +kernel
theorem dX8_wide_47 : decode cX8_wide 47 = .ok (.getfield 26, 3) := by decide +kernel
theorem dX8_wide_50 : decode cX8_wide 50 = .ok (.iload_n 1, 1) := by decide +kernel
theorem dX8_wide_51 : decode cX8_wide 51 = .ok (.putfield 186, 3) := by decide +kernel
theorem dX8_wide_54 : decode cX8_wide 54 = .ok (.aload_n 0, 1) := by decide +kernel
theorem dX8_wide_55 : decode cX8_wide 55 = .ok (.invokevirtual 103, 3) := by decide +kernel
theorem dX8_wide_58 : decode cX8_wide 58 = .ok (.iload_n 2, 1) := by decide +kernel
theorem dX8_wide_59 : decode cX8_wide 59 = .ok (.ireturn, 1) := by decide +kernel
theorem dX8_hold_0 : decode cX8_hold 0 = .ok (.iload_n 1, 1) := by decide +kernel
theorem dX8_hold_1 : decode cX8_hold 1 = .ok (.iconst 1, 1) := by decide +kernel
theorem dX8_hold_2 : decode cX8_hold 2 = .ok (.if_icmp .lt 8, 3) := by decide +kernel
theorem dX8_hold_5 : decode cX8_hold 5 = .ok (.iload_n 1, 1) := by decide +kernel
theorem dX8_hold_6 : decode cX8_hold 6 = .ok (.iconst 4, 1) := by decide +kernel
theorem dX8_hold_7 : decode cX8_hold 7 = .ok (.if_icmp .le 5, 3) := by decide +kernel
theorem dX8_hold_10 : decode cX8_hold 10 = .ok (.iconst (-1), 1) := by decide +kernel
theorem dX8_hold_11 : decode cX8_hold 11 = .ok (.ireturn, 1) := by decide +kernel
theorem dX8_hold_12 : decode cX8_hold 12 = .ok (.aload_n 0, 1) := by decide +kernel
theorem dX8_hold_13 : decode cX8_hold 13 = .ok (.getfield 26, 3) := by decide +kernel
theorem dX8_hold_16 : decode cX8_hold 16 = .ok (.getfield 189, 3) := by decide +kernel
theorem dX8_hold_19 : decode cX8_hold 19 = .ok (.istore_n 2, 1) := by decide +kernel
theorem dX8_hold_20 : decode cX8_hold 20 = .ok (.iload_n 1, 1) := by decide +kernel
theorem dX8_hold_21 : decode cX8_hold 21 = .ok (.iload_n 2, 1) := by decide +kernel
theorem dX8_hold_22 : decode cX8_hold 22 = .ok (.if_icmp .ne 6, 3) := by decide +kernel
theorem dX8_hold_25 : decode cX8_hold 25 = .ok (.bipush (-2), 2) := by decide +kernel
theorem dX8_hold_27 : decode cX8_hold 27 = .ok (.ireturn, 1) := by decide +kernel
theorem dX8_hold_28 : decode cX8_hold 28 = .ok (.aload_n 0, 1) := by decide +kernel
theorem dX8_hold_29 : decode cX8_hold 29 = .ok (.getfield 33, 3) := by decide +kernel
theorem dX8_hold_32 : decode cX8_hold 32 = .ok (.aload_n 0, 1) := by decide +kernel
theorem dX8_hold_33 : decode cX8_hold 33 = .ok (.getfield 26, 3) := by decide +kernel
theorem dX8_hold_36 : decode cX8_hold 36 = .ok (.invokevirtual 137, 3) := by decide +kernel
theorem dX8_hold_39 : decode cX8_hold 39 = .ok (.aload_n 0, 1) := by decide +kernel
theorem dX8_hold_40 : decode cX8_hold 40 = .ok (.getfield 26, 3) := by decide +kernel
theorem dX8_hold_43 : decode cX8_hold 43 = .ok (.iload_n 1, 1) := by decide +kernel
theorem dX8_hold_44 : decode cX8_hold 44 = .ok (.putfield 189, 3) := by decide +kernel
theorem dX8_hold_47 : decode cX8_hold 47 = .ok (.aload_n 0, 1) := by decide +kernel
theorem dX8_hold_48 : decode cX8_hold 48 = .ok (.invokevirtual 103, 3) := by decide +kernel
theorem dX8_hold_51 : decode cX8_hold 51 = .ok (.iload_n 2, 1) := by decide +kernel
theorem dX8_hold_52 : decode cX8_hold 52 = .ok (.ireturn, 1) := by decide +kernel
theorem dX8_undo_0 : decode cX8_undo 0 = .ok (.aload_n 0, 1) := by decide +kernel
theorem dX8_undo_1 : decode cX8_undo 1 = .ok (.getfield 33, 3) := by decide +kernel
theorem dX8_undo_4 : decode cX8_undo 4 = .ok (.getfield 100, 3) := by decide +kernel
theorem dX8_undo_7 : decode cX8_undo 7 = .ok (.ifCond .ne 6, 3) := by decide +kernel
theorem dX8_undo_10 : decode cX8_undo 10 = .ok (.bipush (-2), 2) := by decide +kernel
theorem dX8_undo_12 : decode cX8_undo 12 = .ok (.ireturn, 1) := by decide +kernel
theorem dX8_undo_13 : decode cX8_undo 13 = .ok (.aload_n 0, 1) := by decide +kernel
theorem dX8_undo_14 : decode cX8_undo 14 = .ok (.getfield 33, 3) := by decide +kernel
theorem dX8_undo_17 : decode cX8_undo 17 = .ok (.aload_n 0, 1) := by decide +kernel
theorem dX8_undo_18 : decode cX8_undo 18 = .ok (.getfield 26, 3) := by decide +kernel
theorem dX8_undo_21 : decode cX8_undo 21 = .ok (.invokevirtual 192, 3) := by decide +kernel
theorem dX8_undo_24 : decode cX8_undo 24 = .ok (.aload_n 0, 1) := by decide +kernel
theorem dX8_undo_25 : decode cX8_undo 25 = .ok (.invokevirtual 103, 3) := by decide +kernel
theorem dX8_undo_28 : decode cX8_undo 28 = .ok (.aload_n 0, 1) := by decide +kernel
theorem dX8_undo_29 : decode cX8_undo 29 = .ok (.getfield 33, 3) := by decide +kernel
theorem dX8_undo_32 : decode cX8_undo 32 = .ok (.getfield 100, 3) := by decide +kernel
theorem dX8_undo_35 : decode cX8_undo 35 = .ok (.ireturn, 1) := by decide +kernel
theorem dX8_size_0 : decode cX8_size 0 = .ok (.iload_n 1, 1) := by decide +kernel
theorem dX8_size_1 : decode cX8_size 1 = .ok (.tableswitch 115 0 5 #[39, 47, 55, 65, 91, 99], 39) := by decide +kernel
theorem dX8_size_40 : decode cX8_size 40 = .ok (.aload_n 0, 1) := by decide +kernel
theorem dX8_size_41 : decode cX8_size 41 = .ok (.getfield 42, 3) := by decide +kernel
theorem dX8_size_44 : decode cX8_size 44 = .ok (.getfield 195, 3) := by decide +kernel
theorem dX8_size_47 : decode cX8_size 47 = .ok (.ireturn, 1) := by decide +kernel
theorem dX8_size_48 : decode cX8_size 48 = .ok (.aload_n 0, 1) := by decide +kernel
theorem dX8_size_49 : decode cX8_size 49 = .ok (.getfield 26, 3) := by decide +kernel
theorem dX8_size_52 : decode cX8_size 52 = .ok (.invokevirtual 196, 3) := by decide +kernel
theorem dX8_size_55 : decode cX8_size 55 = .ok (.ireturn, 1) := by decide +kernel
theorem dX8_size_56 : decode cX8_size 56 = .ok (.iconst 3, 1) := by decide +kernel
theorem dX8_size_57 : decode cX8_size 57 = .ok (.aload_n 0, 1) := by decide +kernel
theorem dX8_size_58 : decode cX8_size 58 = .ok (.getfield 42, 3) := by decide +kernel
theorem dX8_size_61 : decode cX8_size 61 = .ok (.getfield 199, 3) := by decide +kernel
theorem dX8_size_64 : decode cX8_size 64 = .ok (.imul, 1) := by decide +kernel
theorem dX8_size_65 : decode cX8_size 65 = .ok (.ireturn, 1) := by decide +kernel
theorem dX8_size_66 : decode cX8_size 66 = .ok (.aload_n 0, 1) := by decide +kernel
theorem dX8_size_67 : decode cX8_size 67 = .ok (.getfield 42, 3) := by decide +kernel
theorem dX8_size_70 : decode cX8_size 70 = .ok (.getfield 195, 3) := by decide +kernel
theorem dX8_size_73 : decode cX8_size 73 = .ok (.aload_n 0, 1) := by decide +kernel
theorem dX8_size_74 : decode cX8_size 74 = .ok (.getfield 26, 3) := by decide +kernel
theorem dX8_size_77 : decode cX8_size 77 = .ok (.invokevirtual 196, 3) := by decide +kernel
theorem dX8_size_80 : decode cX8_size 80 = .ok (.iadd, 1) := by decide +kernel
theorem dX8_size_81 : decode cX8_size 81 = .ok (.iconst 3, 1) := by decide +kernel
theorem dX8_size_82 : decode cX8_size 82 = .ok (.aload_n 0, 1) := by decide +kernel
theorem dX8_size_83 : decode cX8_size 83 = .ok (.getfield 42, 3) := by decide +kernel
theorem dX8_size_86 : decode cX8_size 86 = .ok (.getfield 199, 3) := by decide +kernel
theorem dX8_size_89 : decode cX8_size 89 = .ok (.imul, 1) := by decide +kernel
theorem dX8_size_90 : decode cX8_size 90 = .ok (.iadd, 1) := by decide +kernel
theorem dX8_size_91 : decode cX8_size 91 = .ok (.ireturn, 1) := by decide +kernel
theorem dX8_size_92 : decode cX8_size 92 = .ok (.aload_n 0, 1) := by decide +kernel
theorem dX8_size_93 : decode cX8_size 93 = .ok (.getfield 19, 3) := by decide +kernel
theorem dX8_size_96 : decode cX8_size 96 = .ok (.invokevirtual 202, 3) := by decide +kernel
theorem dX8_size_99 : decode cX8_size 99 = .ok (.ireturn, 1) := by decide +kernel
theorem dX8_size_100 : decode cX8_size 100 = .ok (.aload_n 0, 1) := by decide +kernel
theorem dX8_size_101 : decode cX8_size 101 = .ok (.getfield 42, 3) := by decide +kernel
theorem dX8_size_104 : decode cX8_size 104 = .ok (.iconst 0, 1) := by decide +kernel
theorem dX8_size_105 : decode cX8_size 105 = .ok (.aload_n 0, 1) := by decide +kernel
theorem dX8_size_106 : decode cX8_size 106 = .ok (.getfield 19, 3) := by decide +kernel
theorem dX8_size_109 : decode cX8_size 109 = .ok (.getfield 106, 3) := by decide +kernel
theorem dX8_size_112 : decode cX8_size 112 = .ok (.invokevirtual 205, 3) := by decide +kernel
theorem dX8_size_115 : decode cX8_size 115 = .ok (.ireturn, 1) := by decide +kernel
theorem dX8_size_116 : decode cX8_size 116 = .ok (.iconst (-1), 1) := by decide +kernel
theorem dX8_size_117 : decode cX8_size 117 = .ok (.ireturn, 1) := by decide +kernel
theorem dX8_nibble_0 : decode cX8_nibble 0 = .ok (.iload_n 1, 1) := by decide +kernel
theorem dX8_nibble_1 : decode cX8_nibble 1 = .ok (.ifCond .ge 5, 3) := by decide +kernel
theorem dX8_nibble_4 : decode cX8_nibble 4 = .ok (.iconst (-1), 1) := by decide +kernel
theorem dX8_nibble_5 : decode cX8_nibble 5 = .ok (.ireturn, 1) := by decide +kernel
theorem dX8_nibble_6 : decode cX8_nibble 6 = .ok (.iload_n 1, 1) := by decide +kernel
theorem dX8_nibble_7 : decode cX8_nibble 7 = .ok (.aload_n 0, 1) := by decide +kernel
theorem dX8_nibble_8 : decode cX8_nibble 8 = .ok (.getfield 42, 3) := by decide +kernel
theorem dX8_nibble_11 : decode cX8_nibble 11 = .ok (.getfield 195, 3) := by decide +kernel
theorem dX8_nibble_14 : decode cX8_nibble 14 = .ok (.if_icmp .ge 15, 3) := by decide +kernel
theorem dX8_nibble_17 : decode cX8_nibble 17 = .ok (.aload_n 0, 1) := by decide +kernel
theorem dX8_nibble_18 : decode cX8_nibble 18 = .ok (.getfield 42, 3) := by decide +kernel
theorem dX8_nibble_21 : decode cX8_nibble 21 = .ok (.getfield 209, 3) := by decide +kernel
theorem dX8_nibble_24 : decode cX8_nibble 24 = .ok (.iload_n 1, 1) := by decide +kernel
theorem dX8_nibble_25 : decode cX8_nibble 25 = .ok (.iaload, 1) := by decide +kernel
theorem dX8_nibble_26 : decode cX8_nibble 26 = .ok (.goto 5, 3) := by decide +kernel
theorem dX8_nibble_29 : decode cX8_nibble 29 = .ok (.bipush (-4), 2) := by decide +kernel
theorem dX8_nibble_31 : decode cX8_nibble 31 = .ok (.ireturn, 1) := by decide +kernel
theorem dX8_address_0 : decode cX8_address 0 = .ok (.aload_n 0, 1) := by decide +kernel
theorem dX8_address_1 : decode cX8_address 1 = .ok (.getfield 19, 3) := by decide +kernel
theorem dX8_address_4 : decode cX8_address 4 = .ok (.iload_n 1, 1) := by decide +kernel
theorem dX8_address_5 : decode cX8_address 5 = .ok (.invokevirtual 108, 3) := by decide +kernel
theorem dX8_address_8 : decode cX8_address 8 = .ok (.ifCond .eq 15, 3) := by decide +kernel
theorem dX8_address_11 : decode cX8_address 11 = .ok (.aload_n 0, 1) := by decide +kernel
theorem dX8_address_12 : decode cX8_address 12 = .ok (.getfield 42, 3) := by decide +kernel
theorem dX8_address_15 : decode cX8_address 15 = .ok (.getfield 212, 3) := by decide +kernel
theorem dX8_address_18 : decode cX8_address 18 = .ok (.iload_n 1, 1) := by decide +kernel
theorem dX8_address_19 : decode cX8_address 19 = .ok (.iaload, 1) := by decide +kernel
theorem dX8_address_20 : decode cX8_address 20 = .ok (.goto 4, 3) := by decide +kernel
theorem dX8_address_23 : decode cX8_address 23 = .ok (.iconst (-1), 1) := by decide +kernel
theorem dX8_address_24 : decode cX8_address 24 = .ok (.ireturn, 1) := by decide +kernel
theorem dX8_at_0 : decode cX8_at 0 = .ok (.iload_n 1, 1) := by decide +kernel
theorem dX8_at_1 : decode cX8_at 1 = .ok (.ifCond .ge 5, 3) := by decide +kernel
theorem dX8_at_4 : decode cX8_at 4 = .ok (.iconst (-1), 1) := by decide +kernel
theorem dX8_at_5 : decode cX8_at 5 = .ok (.ireturn, 1) := by decide +kernel
theorem dX8_at_6 : decode cX8_at 6 = .ok (.aload_n 0, 1) := by decide +kernel
theorem dX8_at_7 : decode cX8_at 7 = .ok (.getfield 42, 3) := by decide +kernel
theorem dX8_at_10 : decode cX8_at 10 = .ok (.iload_n 1, 1) := by decide +kernel
theorem dX8_at_11 : decode cX8_at 11 = .ok (.invokevirtual 215, 3) := by decide +kernel
theorem dX8_at_14 : decode cX8_at 14 = .ok (.ireturn, 1) := by decide +kernel
theorem dX8_line_0 : decode cX8_line 0 = .ok (.iload_n 1, 1) := by decide +kernel
theorem dX8_line_1 : decode cX8_line 1 = .ok (.ifCond .lt 14, 3) := by decide +kernel
theorem dX8_line_4 : decode cX8_line 4 = .ok (.iload_n 1, 1) := by decide +kernel
theorem dX8_line_5 : decode cX8_line 5 = .ok (.aload_n 0, 1) := by decide +kernel
theorem dX8_line_6 : decode cX8_line 6 = .ok (.getfield 42, 3) := by decide +kernel
theorem dX8_line_9 : decode cX8_line 9 = .ok (.getfield 199, 3) := by decide +kernel
theorem dX8_line_12 : decode cX8_line 12 = .ok (.if_icmp .lt 5, 3) := by decide +kernel
theorem dX8_line_15 : decode cX8_line 15 = .ok (.iconst (-1), 1) := by decide +kernel
theorem dX8_line_16 : decode cX8_line 16 = .ok (.ireturn, 1) := by decide +kernel
theorem dX8_line_17 : decode cX8_line 17 = .ok (.iload_n 2, 1) := by decide +kernel
theorem dX8_line_18 : decode cX8_line 18 = .ok (.tableswitch 70 0 2 #[26, 35, 44], 26) := by decide +kernel
theorem dX8_line_44 : decode cX8_line 44 = .ok (.aload_n 0, 1) := by decide +kernel
theorem dX8_line_45 : decode cX8_line 45 = .ok (.getfield 42, 3) := by decide +kernel
theorem dX8_line_48 : decode cX8_line 48 = .ok (.iload_n 1, 1) := by decide +kernel
theorem dX8_line_49 : decode cX8_line 49 = .ok (.invokevirtual 218, 3) := by decide +kernel
theorem dX8_line_52 : decode cX8_line 52 = .ok (.ireturn, 1) := by decide +kernel
theorem dX8_line_53 : decode cX8_line 53 = .ok (.aload_n 0, 1) := by decide +kernel
theorem dX8_line_54 : decode cX8_line 54 = .ok (.getfield 42, 3) := by decide +kernel
theorem dX8_line_57 : decode cX8_line 57 = .ok (.iload_n 1, 1) := by decide +kernel
theorem dX8_line_58 : decode cX8_line 58 = .ok (.invokevirtual 221, 3) := by decide +kernel
theorem dX8_line_61 : decode cX8_line 61 = .ok (.ireturn, 1) := by decide +kernel
theorem dX8_line_62 : decode cX8_line 62 = .ok (.aload_n 0, 1) := by decide +kernel
theorem dX8_line_63 : decode cX8_line 63 = .ok (.getfield 42, 3) := by decide +kernel
theorem dX8_line_66 : decode cX8_line 66 = .ok (.aload_n 0, 1) := by decide +kernel
theorem dX8_line_67 : decode cX8_line 67 = .ok (.getfield 42, 3) := by decide +kernel
theorem dX8_line_70 : decode cX8_line 70 = .ok (.iload_n 1, 1) := by decide +kernel
theorem dX8_line_71 : decode cX8_line 71 = .ok (.invokevirtual 224, 3) := by decide +kernel
theorem dX8_line_74 : decode cX8_line 74 = .ok (.aload_n 0, 1) := by decide +kernel
theorem dX8_line_75 : decode cX8_line 75 = .ok (.getfield 42, 3) := by decide +kernel
theorem dX8_line_78 : decode cX8_line 78 = .ok (.iload_n 1, 1) := by decide +kernel
theorem dX8_line_79 : decode cX8_line 79 = .ok (.iconst 1, 1) := by decide +kernel
theorem dX8_line_80 : decode cX8_line 80 = .ok (.iadd, 1) := by decide +kernel
theorem dX8_line_81 : decode cX8_line 81 = .ok (.invokevirtual 224, 3) := by decide +kernel
theorem dX8_line_84 : decode cX8_line 84 = .ok (.invokevirtual 205, 3) := by decide +kernel
theorem dX8_line_87 : decode cX8_line 87 = .ok (.ireturn, 1) := by decide +kernel
theorem dX8_line_88 : decode cX8_line 88 = .ok (.iconst (-1), 1) := by decide +kernel
theorem dX8_line_89 : decode cX8_line 89 = .ok (.ireturn, 1) := by decide +kernel
theorem dX8_seek_0 : decode cX8_seek 0 = .ok (.aload_n 0, 1) := by decide +kernel
theorem dX8_seek_1 : decode cX8_seek 1 = .ok (.getfield 19, 3) := by decide +kernel
theorem dX8_seek_4 : decode cX8_seek 4 = .ok (.iload_n 1, 1) := by decide +kernel
theorem dX8_seek_5 : decode cX8_seek 5 = .ok (.invokevirtual 108, 3) := by decide +kernel
theorem dX8_seek_8 : decode cX8_seek 8 = .ok (.ifCond .ne 5, 3) := by decide +kernel
theorem dX8_seek_11 : decode cX8_seek 11 = .ok (.iconst (-1), 1) := by decide +kernel
theorem dX8_seek_12 : decode cX8_seek 12 = .ok (.ireturn, 1) := by decide +kernel
theorem dX8_seek_13 : decode cX8_seek 13 = .ok (.aload_n 0, 1) := by decide +kernel
theorem dX8_seek_14 : decode cX8_seek 14 = .ok (.getfield 42, 3) := by decide +kernel
theorem dX8_seek_17 : decode cX8_seek 17 = .ok (.getfield 227, 3) := by decide +kernel
theorem dX8_seek_20 : decode cX8_seek 20 = .ok (.iload_n 1, 1) := by decide +kernel
theorem dX8_seek_21 : decode cX8_seek 21 = .ok (.iaload, 1) := by decide +kernel
theorem dX8_seek_22 : decode cX8_seek 22 = .ok (.aload_n 0, 1) := by decide +kernel
theorem dX8_seek_23 : decode cX8_seek 23 = .ok (.getfield 42, 3) := by decide +kernel
theorem dX8_seek_26 : decode cX8_seek 26 = .ok (.aload_n 0, 1) := by decide +kernel
theorem dX8_seek_27 : decode cX8_seek 27 = .ok (.getfield 42, 3) := by decide +kernel
theorem dX8_seek_30 : decode cX8_seek 30 = .ok (.iload_n 1, 1) := by decide +kernel
theorem dX8_seek_31 : decode cX8_seek 31 = .ok (.invokevirtual 230, 3) := by decide +kernel
theorem dX8_seek_34 : decode cX8_seek 34 = .ok (.invokevirtual 218, 3) := by decide +kernel
theorem dX8_seek_37 : decode cX8_seek 37 = .ok (.isub, 1) := by decide +kernel
theorem dX8_seek_38 : decode cX8_seek 38 = .ok (.ireturn, 1) := by decide +kernel
theorem dX8_start_0 : decode cX8_start 0 = .ok (.iload_n 1, 1) := by decide +kernel
theorem dX8_start_1 : decode cX8_start 1 = .ok (.ifCond .lt 8, 3) := by decide +kernel
theorem dX8_start_4 : decode cX8_start 4 = .ok (.iload_n 1, 1) := by decide +kernel
theorem dX8_start_5 : decode cX8_start 5 = .ok (.iconst 1, 1) := by decide +kernel
theorem dX8_start_6 : decode cX8_start 6 = .ok (.if_icmp .le 5, 3) := by decide +kernel
theorem dX8_start_9 : decode cX8_start 9 = .ok (.iconst (-1), 1) := by decide +kernel
theorem dX8_start_10 : decode cX8_start 10 = .ok (.ireturn, 1) := by decide +kernel
theorem dX8_start_11 : decode cX8_start 11 = .ok (.aload_n 0, 1) := by decide +kernel
theorem dX8_start_12 : decode cX8_start 12 = .ok (.getfield 60, 3) := by decide +kernel
theorem dX8_start_15 : decode cX8_start 15 = .ok (.iload_n 1, 1) := by decide +kernel
theorem dX8_start_16 : decode cX8_start 16 = .ok (.iconst 1, 1) := by decide +kernel
theorem dX8_start_17 : decode cX8_start 17 = .ok (.if_icmp .ne 7, 3) := by decide +kernel
theorem dX8_start_20 : decode cX8_start 20 = .ok (.iconst 1, 1) := by decide +kernel
theorem dX8_start_21 : decode cX8_start 21 = .ok (.goto 4, 3) := by decide +kernel
theorem dX8_start_24 : decode cX8_start 24 = .ok (.iconst 0, 1) := by decide +kernel
theorem dX8_start_25 : decode cX8_start 25 = .ok (.aload_n 0, 1) := by decide +kernel
theorem dX8_start_26 : decode cX8_start 26 = .ok (.getfield 26, 3) := by decide +kernel
theorem dX8_start_29 : decode cX8_start 29 = .ok (.getfield 189, 3) := by decide +kernel
theorem dX8_start_32 : decode cX8_start 32 = .ok (.invokevirtual 233, 3) := by decide +kernel
theorem dX8_start_35 : decode cX8_start 35 = .ok (.iconst 0, 1) := by decide +kernel
theorem dX8_start_36 : decode cX8_start 36 = .ok (.ireturn, 1) := by decide +kernel
theorem dX8_step_0 : decode cX8_step 0 = .ok (.iload_n 1, 1) := by decide +kernel
theorem dX8_step_1 : decode cX8_step 1 = .ok (.iconst 1, 1) := by decide +kernel
theorem dX8_step_2 : decode cX8_step 2 = .ok (.if_icmp .lt 10, 3) := by decide +kernel
theorem dX8_step_5 : decode cX8_step 5 = .ok (.iload_n 1, 1) := by decide +kernel
theorem dX8_step_6 : decode cX8_step 6 = .ok (.sipush 400, 3) := by decide +kernel
theorem dX8_step_9 : decode cX8_step 9 = .ok (.if_icmp .le 5, 3) := by decide +kernel
theorem dX8_step_12 : decode cX8_step 12 = .ok (.iconst (-1), 1) := by decide +kernel
theorem dX8_step_13 : decode cX8_step 13 = .ok (.ireturn, 1) := by decide +kernel
theorem dX8_step_14 : decode cX8_step 14 = .ok (.aload_n 0, 1) := by decide +kernel
theorem dX8_step_15 : decode cX8_step 15 = .ok (.getfield 60, 3) := by decide +kernel
theorem dX8_step_18 : decode cX8_step 18 = .ok (.getfield 237, 3) := by decide +kernel
theorem dX8_step_21 : decode cX8_step 21 = .ok (.ifCond .eq 13, 3) := by decide +kernel
theorem dX8_step_24 : decode cX8_step 24 = .ok (.aload_n 0, 1) := by decide +kernel
theorem dX8_step_25 : decode cX8_step 25 = .ok (.getfield 60, 3) := by decide +kernel
theorem dX8_step_28 : decode cX8_step 28 = .ok (.getfield 241, 3) := by decide +kernel
theorem dX8_step_31 : decode cX8_step 31 = .ok (.ifCond .eq 6, 3) := by decide +kernel
theorem dX8_step_34 : decode cX8_step 34 = .ok (.bipush (-2), 2) := by decide +kernel
theorem dX8_step_36 : decode cX8_step 36 = .ok (.ireturn, 1) := by decide +kernel
theorem dX8_step_37 : decode cX8_step 37 = .ok (.aload_n 0, 1) := by decide +kernel
theorem dX8_step_38 : decode cX8_step 38 = .ok (.getfield 60, 3) := by decide +kernel
theorem dX8_step_41 : decode cX8_step 41 = .ok (.iload_n 1, 1) := by decide +kernel
theorem dX8_step_42 : decode cX8_step 42 = .ok (.invokevirtual 244, 3) := by decide +kernel
theorem dX8_step_45 : decode cX8_step 45 = .ok (.ireturn, 1) := by decide +kernel
theorem dX8_now_0 : decode cX8_now 0 = .ok (.iload_n 1, 1) := by decide +kernel
theorem dX8_now_1 : decode cX8_now 1 = .ok (.ifCond .lt 9, 3) := by decide +kernel
theorem dX8_now_4 : decode cX8_now 4 = .ok (.iload_n 1, 1) := by decide +kernel
theorem dX8_now_5 : decode cX8_now 5 = .ok (.bipush 8, 2) := by decide +kernel
theorem dX8_now_7 : decode cX8_now 7 = .ok (.if_icmp .le 5, 3) := by decide +kernel
theorem dX8_now_10 : decode cX8_now 10 = .ok (.iconst (-1), 1) := by decide +kernel
theorem dX8_now_11 : decode cX8_now 11 = .ok (.ireturn, 1) := by decide +kernel
theorem dX8_now_12 : decode cX8_now 12 = .ok (.aload_n 0, 1) := by decide +kernel
theorem dX8_now_13 : decode cX8_now 13 = .ok (.getfield 60, 3) := by decide +kernel
theorem dX8_now_16 : decode cX8_now 16 = .ok (.getfield 237, 3) := by decide +kernel
theorem dX8_now_19 : decode cX8_now 19 = .ok (.ifCond .eq 14, 3) := by decide +kernel
theorem dX8_now_22 : decode cX8_now 22 = .ok (.aload_n 0, 1) := by decide +kernel
theorem dX8_now_23 : decode cX8_now 23 = .ok (.getfield 60, 3) := by decide +kernel
theorem dX8_now_26 : decode cX8_now 26 = .ok (.iload_n 1, 1) := by decide +kernel
theorem dX8_now_27 : decode cX8_now 27 = .ok (.invokevirtual 247, 3) := by decide +kernel
theorem dX8_now_30 : decode cX8_now 30 = .ok (.goto 5, 3) := by decide +kernel
theorem dX8_now_33 : decode cX8_now 33 = .ok (.bipush (-2), 2) := by decide +kernel
theorem dX8_now_35 : decode cX8_now 35 = .ok (.ireturn, 1) := by decide +kernel
theorem dX8_held_0 : decode cX8_held 0 = .ok (.iload_n 1, 1) := by decide +kernel
theorem dX8_held_1 : decode cX8_held 1 = .ok (.ifCond .ge 5, 3) := by decide +kernel
theorem dX8_held_4 : decode cX8_held 4 = .ok (.iconst (-1), 1) := by decide +kernel
theorem dX8_held_5 : decode cX8_held 5 = .ok (.ireturn, 1) := by decide +kernel
theorem dX8_held_6 : decode cX8_held 6 = .ok (.aload_n 0, 1) := by decide +kernel
theorem dX8_held_7 : decode cX8_held 7 = .ok (.getfield 60, 3) := by decide +kernel
theorem dX8_held_10 : decode cX8_held 10 = .ok (.getfield 237, 3) := by decide +kernel
theorem dX8_held_13 : decode cX8_held 13 = .ok (.ifCond .ne 6, 3) := by decide +kernel
theorem dX8_held_16 : decode cX8_held 16 = .ok (.bipush (-2), 2) := by decide +kernel
theorem dX8_held_18 : decode cX8_held 18 = .ok (.ireturn, 1) := by decide +kernel
theorem dX8_held_19 : decode cX8_held 19 = .ok (.iload_n 1, 1) := by decide +kernel
theorem dX8_held_20 : decode cX8_held 20 = .ok (.aload_n 0, 1) := by decide +kernel
theorem dX8_held_21 : decode cX8_held 21 = .ok (.getfield 60, 3) := by decide +kernel
theorem dX8_held_24 : decode cX8_held 24 = .ok (.getfield 250, 3) := by decide +kernel
theorem dX8_held_27 : decode cX8_held 27 = .ok (.if_icmp .ge 15, 3) := by decide +kernel
theorem dX8_held_30 : decode cX8_held 30 = .ok (.aload_n 0, 1) := by decide +kernel
theorem dX8_held_31 : decode cX8_held 31 = .ok (.getfield 60, 3) := by decide +kernel
theorem dX8_held_34 : decode cX8_held 34 = .ok (.getfield 253, 3) := by decide +kernel
theorem dX8_held_37 : decode cX8_held 37 = .ok (.iload_n 1, 1) := by decide +kernel
theorem dX8_held_38 : decode cX8_held 38 = .ok (.iaload, 1) := by decide +kernel
theorem dX8_held_39 : decode cX8_held 39 = .ok (.goto 5, 3) := by decide +kernel
theorem dX8_held_42 : decode cX8_held 42 = .ok (.bipush (-4), 2) := by decide +kernel
theorem dX8_held_44 : decode cX8_held 44 = .ok (.ireturn, 1) := by decide +kernel
theorem dX8_cell_0 : decode cX8_cell 0 = .ok (.iload_n 1, 1) := by decide +kernel
theorem dX8_cell_1 : decode cX8_cell 1 = .ok (.ifCond .lt 9, 3) := by decide +kernel
theorem dX8_cell_4 : decode cX8_cell 4 = .ok (.iload_n 1, 1) := by decide +kernel
theorem dX8_cell_5 : decode cX8_cell 5 = .ok (.bipush 10, 2) := by decide +kernel
theorem dX8_cell_7 : decode cX8_cell 7 = .ok (.if_icmp .lt 5, 3) := by decide +kernel
theorem dX8_cell_10 : decode cX8_cell 10 = .ok (.iconst (-1), 1) := by decide +kernel
theorem dX8_cell_11 : decode cX8_cell 11 = .ok (.ireturn, 1) := by decide +kernel
theorem dX8_cell_12 : decode cX8_cell 12 = .ok (.aload_n 0, 1) := by decide +kernel
theorem dX8_cell_13 : decode cX8_cell 13 = .ok (.getfield 60, 3) := by decide +kernel
theorem dX8_cell_16 : decode cX8_cell 16 = .ok (.getfield 237, 3) := by decide +kernel
theorem dX8_cell_19 : decode cX8_cell 19 = .ok (.ifCond .eq 15, 3) := by decide +kernel
theorem dX8_cell_22 : decode cX8_cell 22 = .ok (.aload_n 0, 1) := by decide +kernel
theorem dX8_cell_23 : decode cX8_cell 23 = .ok (.getfield 60, 3) := by decide +kernel
theorem dX8_cell_26 : decode cX8_cell 26 = .ok (.getfield 256, 3) := by decide +kernel
theorem dX8_cell_29 : decode cX8_cell 29 = .ok (.iload_n 1, 1) := by decide +kernel
theorem dX8_cell_30 : decode cX8_cell 30 = .ok (.iaload, 1) := by decide +kernel
theorem dX8_cell_31 : decode cX8_cell 31 = .ok (.goto 5, 3) := by decide +kernel
theorem dX8_cell_34 : decode cX8_cell 34 = .ok (.bipush (-2), 2) := by decide +kernel
theorem dX8_cell_36 : decode cX8_cell 36 = .ok (.ireturn, 1) := by decide +kernel
theorem dX8_out_0 : decode cX8_out 0 = .ok (.iload_n 1, 1) := by decide +kernel
theorem dX8_out_1 : decode cX8_out 1 = .ok (.ifCond .ge 5, 3) := by decide +kernel
theorem dX8_out_4 : decode cX8_out 4 = .ok (.iconst (-1), 1) := by decide +kernel
theorem dX8_out_5 : decode cX8_out 5 = .ok (.ireturn, 1) := by decide +kernel
theorem dX8_out_6 : decode cX8_out 6 = .ok (.aload_n 0, 1) := by decide +kernel
theorem dX8_out_7 : decode cX8_out 7 = .ok (.getfield 60, 3) := by decide +kernel
theorem dX8_out_10 : decode cX8_out 10 = .ok (.getfield 237, 3) := by decide +kernel
theorem dX8_out_13 : decode cX8_out 13 = .ok (.ifCond .ne 6, 3) := by decide +kernel
theorem dX8_out_16 : decode cX8_out 16 = .ok (.bipush (-2), 2) := by decide +kernel
theorem dX8_out_18 : decode cX8_out 18 = .ok (.ireturn, 1) := by decide +kernel
theorem dX8_out_19 : decode cX8_out 19 = .ok (.iload_n 1, 1) := by decide +kernel
theorem dX8_out_20 : decode cX8_out 20 = .ok (.aload_n 0, 1) := by decide +kernel
theorem dX8_out_21 : decode cX8_out 21 = .ok (.getfield 60, 3) := by decide +kernel
theorem dX8_out_24 : decode cX8_out 24 = .ok (.getfield 259, 3) := by decide +kernel
theorem dX8_out_27 : decode cX8_out 27 = .ok (.if_icmp .ge 15, 3) := by decide +kernel
theorem dX8_out_30 : decode cX8_out 30 = .ok (.aload_n 0, 1) := by decide +kernel
theorem dX8_out_31 : decode cX8_out 31 = .ok (.getfield 60, 3) := by decide +kernel
theorem dX8_out_34 : decode cX8_out 34 = .ok (.getfield 262, 3) := by decide +kernel
theorem dX8_out_37 : decode cX8_out 37 = .ok (.iload_n 1, 1) := by decide +kernel
theorem dX8_out_38 : decode cX8_out 38 = .ok (.iaload, 1) := by decide +kernel
theorem dX8_out_39 : decode cX8_out 39 = .ok (.goto 5, 3) := by decide +kernel
theorem dX8_out_42 : decode cX8_out 42 = .ok (.bipush (-4), 2) := by decide +kernel
theorem dX8_out_44 : decode cX8_out 44 = .ok (.ireturn, 1) := by decide +kernel
theorem dX8_count_0 : decode cX8_count 0 = .ok (.iload_n 1, 1) := by decide +kernel
theorem dX8_count_1 : decode cX8_count 1 = .ok (.tableswitch 131 0 8 #[51, 59, 67, 75, 83, 91, 99, 107, 115], 51) := by decide +kernel
theorem dX8_count_52 : decode cX8_count 52 = .ok (.aload_n 0, 1) := by decide +kernel
theorem dX8_count_53 : decode cX8_count 53 = .ok (.getfield 19, 3) := by decide +kernel
theorem dX8_count_56 : decode cX8_count 56 = .ok (.getfield 106, 3) := by decide +kernel
theorem dX8_count_59 : decode cX8_count 59 = .ok (.ireturn, 1) := by decide +kernel
theorem dX8_count_60 : decode cX8_count 60 = .ok (.aload_n 0, 1) := by decide +kernel
theorem dX8_count_61 : decode cX8_count 61 = .ok (.getfield 26, 3) := by decide +kernel
theorem dX8_count_64 : decode cX8_count 64 = .ok (.getfield 97, 3) := by decide +kernel
theorem dX8_count_67 : decode cX8_count 67 = .ok (.ireturn, 1) := by decide +kernel
theorem dX8_count_68 : decode cX8_count 68 = .ok (.aload_n 0, 1) := by decide +kernel
theorem dX8_count_69 : decode cX8_count 69 = .ok (.getfield 26, 3) := by decide +kernel
theorem dX8_count_72 : decode cX8_count 72 = .ok (.getfield 186, 3) := by decide +kernel
theorem dX8_count_75 : decode cX8_count 75 = .ok (.ireturn, 1) := by decide +kernel
theorem dX8_count_76 : decode cX8_count 76 = .ok (.aload_n 0, 1) := by decide +kernel
theorem dX8_count_77 : decode cX8_count 77 = .ok (.getfield 26, 3) := by decide +kernel
theorem dX8_count_80 : decode cX8_count 80 = .ok (.getfield 189, 3) := by decide +kernel
theorem dX8_count_83 : decode cX8_count 83 = .ok (.ireturn, 1) := by decide +kernel
theorem dX8_count_84 : decode cX8_count 84 = .ok (.aload_n 0, 1) := by decide +kernel
theorem dX8_count_85 : decode cX8_count 85 = .ok (.getfield 42, 3) := by decide +kernel
theorem dX8_count_88 : decode cX8_count 88 = .ok (.getfield 199, 3) := by decide +kernel
theorem dX8_count_91 : decode cX8_count 91 = .ok (.ireturn, 1) := by decide +kernel
theorem dX8_count_92 : decode cX8_count 92 = .ok (.aload_n 0, 1) := by decide +kernel
theorem dX8_count_93 : decode cX8_count 93 = .ok (.getfield 19, 3) := by decide +kernel
theorem dX8_count_96 : decode cX8_count 96 = .ok (.invokevirtual 265, 3) := by decide +kernel
theorem dX8_count_99 : decode cX8_count 99 = .ok (.ireturn, 1) := by decide +kernel
theorem dX8_count_100 : decode cX8_count 100 = .ok (.aload_n 0, 1) := by decide +kernel
theorem dX8_count_101 : decode cX8_count 101 = .ok (.getfield 33, 3) := by decide +kernel
theorem dX8_count_104 : decode cX8_count 104 = .ok (.getfield 100, 3) := by decide +kernel
theorem dX8_count_107 : decode cX8_count 107 = .ok (.ireturn, 1) := by decide +kernel
theorem dX8_count_108 : decode cX8_count 108 = .ok (.aload_n 0, 1) := by decide +kernel
theorem dX8_count_109 : decode cX8_count 109 = .ok (.getfield 12, 3) := by decide +kernel
theorem dX8_count_112 : decode cX8_count 112 = .ok (.getfield 268, 3) := by decide +kernel
theorem dX8_count_115 : decode cX8_count 115 = .ok (.ireturn, 1) := by decide +kernel
theorem dX8_count_116 : decode cX8_count 116 = .ok (.aload_n 0, 1) := by decide +kernel
theorem dX8_count_117 : decode cX8_count 117 = .ok (.getfield 60, 3) := by decide +kernel
theorem dX8_count_120 : decode cX8_count 120 = .ok (.getfield 237, 3) := by decide +kernel
theorem dX8_count_123 : decode cX8_count 123 = .ok (.ifCond .eq 7, 3) := by decide +kernel
theorem dX8_count_126 : decode cX8_count 126 = .ok (.iconst 1, 1) := by decide +kernel
theorem dX8_count_127 : decode cX8_count 127 = .ok (.goto 4, 3) := by decide +kernel
theorem dX8_count_130 : decode cX8_count 130 = .ok (.iconst 0, 1) := by decide +kernel
theorem dX8_count_131 : decode cX8_count 131 = .ok (.ireturn, 1) := by decide +kernel
theorem dX8_count_132 : decode cX8_count 132 = .ok (.iconst (-1), 1) := by decide +kernel
theorem dX8_count_133 : decode cX8_count 133 = .ok (.ireturn, 1) := by decide +kernel
theorem dX8_settle_0 : decode cX8_settle 0 = .ok (.aload_n 0, 1) := by decide +kernel
theorem dX8_settle_1 : decode cX8_settle 1 = .ok (.getfield 42, 3) := by decide +kernel
theorem dX8_settle_4 : decode cX8_settle 4 = .ok (.invokevirtual 90, 3) := by decide +kernel
theorem dX8_settle_7 : decode cX8_settle 7 = .ok (.aload_n 0, 1) := by decide +kernel
theorem dX8_settle_8 : decode cX8_settle 8 = .ok (.getfield 60, 3) := by decide +kernel
theorem dX8_settle_11 : decode cX8_settle 11 = .ok (.invokevirtual 166, 3) := by decide +kernel
theorem dX8_settle_14 : decode cX8_settle 14 = .ok (.return_, 1) := by decide +kernel
theorem dX8_hindranceTo_0 : decode cX8_hindranceTo 0 = .ok (.aload_n 0, 1) := by decide +kernel
theorem dX8_hindranceTo_1 : decode cX8_hindranceTo 1 = .ok (.getfield 19, 3) := by decide +kernel
theorem dX8_hindranceTo_4 : decode cX8_hindranceTo 4 = .ok (.iload_n 1, 1) := by decide +kernel
theorem dX8_hindranceTo_5 : decode cX8_hindranceTo 5 = .ok (.invokevirtual 108, 3) := by decide +kernel
theorem dX8_hindranceTo_8 : decode cX8_hindranceTo 8 = .ok (.ifCond .eq 23, 3) := by decide +kernel
theorem dX8_hindranceTo_11 : decode cX8_hindranceTo 11 = .ok (.iload_n 2, 1) := by decide +kernel
theorem dX8_hindranceTo_12 : decode cX8_hindranceTo 12 = .ok (.iconst 2, 1) := by decide +kernel
theorem dX8_hindranceTo_13 : decode cX8_hindranceTo 13 = .ok (.if_icmp .lt 18, 3) := by decide +kernel
theorem dX8_hindranceTo_16 : decode cX8_hindranceTo 16 = .ok (.iload_n 2, 1) := by decide +kernel
theorem dX8_hindranceTo_17 : decode cX8_hindranceTo 17 = .ok (.iconst 4, 1) := by decide +kernel
theorem dX8_hindranceTo_18 : decode cX8_hindranceTo 18 = .ok (.if_icmp .gt 13, 3) := by decide +kernel
theorem dX8_hindranceTo_21 : decode cX8_hindranceTo 21 = .ok (.iload_n 3, 1) := by decide +kernel
theorem dX8_hindranceTo_22 : decode cX8_hindranceTo 22 = .ok (.iconst (-1), 1) := by decide +kernel
theorem dX8_hindranceTo_23 : decode cX8_hindranceTo 23 = .ok (.if_icmp .lt 8, 3) := by decide +kernel
theorem dX8_hindranceTo_26 : decode cX8_hindranceTo 26 = .ok (.iload_n 3, 1) := by decide +kernel
theorem dX8_hindranceTo_27 : decode cX8_hindranceTo 27 = .ok (.iload_n 2, 1) := by decide +kernel
theorem dX8_hindranceTo_28 : decode cX8_hindranceTo 28 = .ok (.if_icmp .lt 5, 3) := by decide +kernel
theorem dX8_hindranceTo_31 : decode cX8_hindranceTo 31 = .ok (.iconst (-1), 1) := by decide +kernel
theorem dX8_hindranceTo_32 : decode cX8_hindranceTo 32 = .ok (.ireturn, 1) := by decide +kernel
theorem dX8_hindranceTo_33 : decode cX8_hindranceTo 33 = .ok (.aload_n 0, 1) := by decide +kernel
theorem dX8_hindranceTo_34 : decode cX8_hindranceTo 34 = .ok (.getfield 42, 3) := by decide +kernel
theorem dX8_hindranceTo_37 : decode cX8_hindranceTo 37 = .ok (.iload_n 1, 1) := by decide +kernel
theorem dX8_hindranceTo_38 : decode cX8_hindranceTo 38 = .ok (.iload_n 2, 1) := by decide +kernel
theorem dX8_hindranceTo_39 : decode cX8_hindranceTo 39 = .ok (.invokevirtual 269, 3) := by decide +kernel
theorem dX8_hindranceTo_42 : decode cX8_hindranceTo 42 = .ok (.ifCond .eq 20, 3) := by decide +kernel
theorem dX8_hindranceTo_45 : decode cX8_hindranceTo 45 = .ok (.aload_n 0, 1) := by decide +kernel
theorem dX8_hindranceTo_46 : decode cX8_hindranceTo 46 = .ok (.getfield 26, 3) := by decide +kernel
theorem dX8_hindranceTo_49 : decode cX8_hindranceTo 49 = .ok (.aload_n 0, 1) := by decide +kernel
theorem dX8_hindranceTo_50 : decode cX8_hindranceTo 50 = .ok (.getfield 19, 3) := by decide +kernel
theorem dX8_hindranceTo_53 : decode cX8_hindranceTo 53 = .ok (.iload_n 1, 1) := by decide +kernel
theorem dX8_hindranceTo_54 : decode cX8_hindranceTo 54 = .ok (.iload_n 2, 1) := by decide +kernel
theorem dX8_hindranceTo_55 : decode cX8_hindranceTo 55 = .ok (.iload_n 3, 1) := by decide +kernel
theorem dX8_hindranceTo_56 : decode cX8_hindranceTo 56 = .ok (.invokevirtual 273, 3) := by decide +kernel
theorem dX8_hindranceTo_59 : decode cX8_hindranceTo 59 = .ok (.ifCond .eq 6, 3) := by decide +kernel
theorem dX8_hindranceTo_62 : decode cX8_hindranceTo 62 = .ok (.bipush (-2), 2) := by decide +kernel
theorem dX8_hindranceTo_64 : decode cX8_hindranceTo 64 = .ok (.ireturn, 1) := by decide +kernel
theorem dX8_hindranceTo_65 : decode cX8_hindranceTo 65 = .ok (.aload_n 0, 1) := by decide +kernel
theorem dX8_hindranceTo_66 : decode cX8_hindranceTo 66 = .ok (.getfield 26, 3) := by decide +kernel
theorem dX8_hindranceTo_69 : decode cX8_hindranceTo 69 = .ok (.getfield 97, 3) := by decide +kernel
theorem dX8_hindranceTo_72 : decode cX8_hindranceTo 72 = .ok (.bipush 8, 2) := by decide +kernel
theorem dX8_hindranceTo_74 : decode cX8_hindranceTo 74 = .ok (.if_icmp .ge 7, 3) := by decide +kernel
theorem dX8_hindranceTo_77 : decode cX8_hindranceTo 77 = .ok (.iconst 0, 1) := by decide +kernel
theorem dX8_hindranceTo_78 : decode cX8_hindranceTo 78 = .ok (.goto 5, 3) := by decide +kernel
theorem dX8_hindranceTo_81 : decode cX8_hindranceTo 81 = .ok (.bipush (-3), 2) := by decide +kernel
theorem dX8_hindranceTo_83 : decode cX8_hindranceTo 83 = .ok (.ireturn, 1) := by decide +kernel
theorem dX8_letterOf_0 : decode cX8_letterOf 0 = .ok (.iload_n 0, 1) := by decide +kernel
theorem dX8_letterOf_1 : decode cX8_letterOf 1 = .ok (.ifCond .lt 19, 3) := by decide +kernel
theorem dX8_letterOf_4 : decode cX8_letterOf 4 = .ok (.iload_n 0, 1) := by decide +kernel
theorem dX8_letterOf_5 : decode cX8_letterOf 5 = .ok (.bipush 11, 2) := by decide +kernel
theorem dX8_letterOf_7 : decode cX8_letterOf 7 = .ok (.if_icmp .gt 13, 3) := by decide +kernel
theorem dX8_letterOf_10 : decode cX8_letterOf 10 = .ok (.ldc_w 277, 3) := by decide +kernel
theorem dX8_letterOf_13 : decode cX8_letterOf 13 = .ok (.iload_n 0, 1) := by decide +kernel
theorem dX8_letterOf_14 : decode cX8_letterOf 14 = .ok (.invokevirtual 72, 3) := by decide +kernel
theorem dX8_letterOf_17 : decode cX8_letterOf 17 = .ok (.goto 5, 3) := by decide +kernel
theorem dX8_letterOf_20 : decode cX8_letterOf 20 = .ok (.bipush (-4), 2) := by decide +kernel
theorem dX8_letterOf_22 : decode cX8_letterOf 22 = .ok (.ireturn, 1) := by decide +kernel
theorem dX8_isSimple_0 : decode cX8_isSimple 0 = .ok (.iload_n 0, 1) := by decide +kernel
theorem dX8_isSimple_1 : decode cX8_isSimple 1 = .ok (.ifCond .lt 13, 3) := by decide +kernel
theorem dX8_isSimple_4 : decode cX8_isSimple 4 = .ok (.iload_n 0, 1) := by decide +kernel
theorem dX8_isSimple_5 : decode cX8_isSimple 5 = .ok (.bipush 6, 2) := by decide +kernel
theorem dX8_isSimple_7 : decode cX8_isSimple 7 = .ok (.if_icmp .gt 7, 3) := by decide +kernel
theorem dX8_isSimple_10 : decode cX8_isSimple 10 = .ok (.iconst 1, 1) := by decide +kernel
theorem dX8_isSimple_11 : decode cX8_isSimple 11 = .ok (.goto 4, 3) := by decide +kernel
theorem dX8_isSimple_14 : decode cX8_isSimple 14 = .ok (.iconst 0, 1) := by decide +kernel
theorem dX8_isSimple_15 : decode cX8_isSimple 15 = .ok (.ireturn, 1) := by decide +kernel
theorem dX8_hasTarget_0 : decode cX8_hasTarget 0 = .ok (.iload_n 0, 1) := by decide +kernel
theorem dX8_hasTarget_1 : decode cX8_hasTarget 1 = .ok (.bipush 6, 2) := by decide +kernel
theorem dX8_hasTarget_3 : decode cX8_hasTarget 3 = .ok (.if_icmp .le 13, 3) := by decide +kernel
theorem dX8_hasTarget_6 : decode cX8_hasTarget 6 = .ok (.iload_n 0, 1) := by decide +kernel
theorem dX8_hasTarget_7 : decode cX8_hasTarget 7 = .ok (.bipush 9, 2) := by decide +kernel
theorem dX8_hasTarget_9 : decode cX8_hasTarget 9 = .ok (.if_icmp .gt 7, 3) := by decide +kernel
theorem dX8_hasTarget_12 : decode cX8_hasTarget 12 = .ok (.iconst 1, 1) := by decide +kernel
theorem dX8_hasTarget_13 : decode cX8_hasTarget 13 = .ok (.goto 4, 3) := by decide +kernel
theorem dX8_hasTarget_16 : decode cX8_hasTarget 16 = .ok (.iconst 0, 1) := by decide +kernel
theorem dX8_hasTarget_17 : decode cX8_hasTarget 17 = .ok (.ireturn, 1) := by decide +kernel
theorem dX8_nibblesOf_0 : decode cX8_nibblesOf 0 = .ok (.iload_n 0, 1) := by decide +kernel
theorem dX8_nibblesOf_1 : decode cX8_nibblesOf 1 = .ok (.invokestatic 279, 3) := by decide +kernel
theorem dX8_nibblesOf_4 : decode cX8_nibblesOf 4 = .ok (.ifCond .eq 5, 3) := by decide +kernel
theorem dX8_nibblesOf_7 : decode cX8_nibblesOf 7 = .ok (.iconst 2, 1) := by decide +kernel
theorem dX8_nibblesOf_8 : decode cX8_nibblesOf 8 = .ok (.ireturn, 1) := by decide +kernel
theorem dX8_nibblesOf_9 : decode cX8_nibblesOf 9 = .ok (.iload_n 0, 1) := by decide +kernel
theorem dX8_nibblesOf_10 : decode cX8_nibblesOf 10 = .ok (.invokestatic 282, 3) := by decide +kernel
theorem dX8_nibblesOf_13 : decode cX8_nibblesOf 13 = .ok (.ifCond .eq 7, 3) := by decide +kernel
theorem dX8_nibblesOf_16 : decode cX8_nibblesOf 16 = .ok (.iconst 4, 1) := by decide +kernel
theorem dX8_nibblesOf_17 : decode cX8_nibblesOf 17 = .ok (.goto 4, 3) := by decide +kernel
theorem dX8_nibblesOf_20 : decode cX8_nibblesOf 20 = .ok (.iconst 1, 1) := by decide +kernel
theorem dX8_nibblesOf_21 : decode cX8_nibblesOf 21 = .ok (.ireturn, 1) := by decide +kernel
theorem dX8_referenceNibbles_0 : decode cX8_referenceNibbles 0 = .ok (.iload_n 0, 1) := by decide +kernel
theorem dX8_referenceNibbles_1 : decode cX8_referenceNibbles 1 = .ok (.ifCond .ge 7, 3) := by decide +kernel
theorem dX8_referenceNibbles_4 : decode cX8_referenceNibbles 4 = .ok (.iconst 2, 1) := by decide +kernel
theorem dX8_referenceNibbles_5 : decode cX8_referenceNibbles 5 = .ok (.goto 4, 3) := by decide +kernel
theorem dX8_referenceNibbles_8 : decode cX8_referenceNibbles 8 = .ok (.iconst 3, 1) := by decide +kernel
theorem dX8_referenceNibbles_9 : decode cX8_referenceNibbles 9 = .ok (.ireturn, 1) := by decide +kernel
theorem dX8_entryNibbles_0 : decode cX8_entryNibbles 0 = .ok (.iconst 1, 1) := by decide +kernel
theorem dX8_entryNibbles_1 : decode cX8_entryNibbles 1 = .ok (.iconst 2, 1) := by decide +kernel
theorem dX8_entryNibbles_2 : decode cX8_entryNibbles 2 = .ok (.iload_n 0, 1) := by decide +kernel
theorem dX8_entryNibbles_3 : decode cX8_entryNibbles 3 = .ok (.imul, 1) := by decide +kernel
theorem dX8_entryNibbles_4 : decode cX8_entryNibbles 4 = .ok (.iadd, 1) := by decide +kernel
theorem dX8_entryNibbles_5 : decode cX8_entryNibbles 5 = .ok (.ireturn, 1) := by decide +kernel
theorem dX9_init_0 : decode cX9_init 0 = .ok (.aload_n 0, 1) := by decide +kernel
theorem dX9_init_1 : decode cX9_init 1 = .ok (.invokespecial 1, 3) := by decide +kernel
theorem dX9_init_4 : decode cX9_init 4 = .ok (.aload_n 0, 1) := by decide +kernel
theorem dX9_init_5 : decode cX9_init 5 = .ok (.sipush 200, 3) := by decide +kernel
theorem dX9_init_8 : decode cX9_init 8 = .ok (.newarray .int, 2) := by decide +kernel
theorem dX9_init_10 : decode cX9_init 10 = .ok (.putfield 7, 3) := by decide +kernel
theorem dX9_init_13 : decode cX9_init 13 = .ok (.aload_n 0, 1) := by decide +kernel
theorem dX9_init_14 : decode cX9_init 14 = .ok (.bipush 48, 2) := by decide +kernel
theorem dX9_init_16 : decode cX9_init 16 = .ok (.newarray .int, 2) := by decide +kernel
theorem dX9_init_18 : decode cX9_init 18 = .ok (.putfield 13, 3) := by decide +kernel
theorem dX9_init_21 : decode cX9_init 21 = .ok (.aload_n 0, 1) := by decide +kernel
theorem dX9_init_22 : decode cX9_init 22 = .ok (.bipush 48, 2) := by decide +kernel
theorem dX9_init_24 : decode cX9_init 24 = .ok (.newarray .int, 2) := by decide +kernel
theorem dX9_init_26 : decode cX9_init 26 = .ok (.putfield 16, 3) := by decide +kernel
theorem dX9_init_29 : decode cX9_init 29 = .ok (.aload_n 0, 1) := by decide +kernel
theorem dX9_init_30 : decode cX9_init 30 = .ok (.bipush 48, 2) := by decide +kernel
theorem dX9_init_32 : decode cX9_init 32 = .ok (.newarray .int, 2) := by decide +kernel
theorem dX9_init_34 : decode cX9_init 34 = .ok (.putfield 19, 3) := by decide +kernel
theorem dX9_init_37 : decode cX9_init 37 = .ok (.aload_n 0, 1) := by decide +kernel
theorem dX9_init_38 : decode cX9_init 38 = .ok (.bipush 48, 2) := by decide +kernel
theorem dX9_init_40 : decode cX9_init 40 = .ok (.newarray .int, 2) := by decide +kernel
theorem dX9_init_42 : decode cX9_init 42 = .ok (.putfield 22, 3) := by decide +kernel
theorem dX9_init_45 : decode cX9_init 45 = .ok (.aload_n 0, 1) := by decide +kernel
theorem dX9_init_46 : decode cX9_init 46 = .ok (.bipush 48, 2) := by decide +kernel
theorem dX9_init_48 : decode cX9_init 48 = .ok (.newarray .int, 2) := by decide +kernel
theorem dX9_init_50 : decode cX9_init 50 = .ok (.putfield 25, 3) := by decide +kernel
theorem dX9_init_53 : decode cX9_init 53 = .ok (.aload_n 0, 1) := by decide +kernel
theorem dX9_init_54 : decode cX9_init 54 = .ok (.bipush 93, 2) := by decide +kernel
theorem dX9_init_56 : decode cX9_init 56 = .ok (.newarray .int, 2) := by decide +kernel
theorem dX9_init_58 : decode cX9_init 58 = .ok (.putfield 28, 3) := by decide +kernel
theorem dX9_init_61 : decode cX9_init 61 = .ok (.aload_n 0, 1) := by decide +kernel
theorem dX9_init_62 : decode cX9_init 62 = .ok (.sipush 498, 3) := by decide +kernel
theorem dX9_init_65 : decode cX9_init 65 = .ok (.newarray .int, 2) := by decide +kernel
theorem dX9_init_67 : decode cX9_init 67 = .ok (.putfield 31, 3) := by decide +kernel
theorem dX9_init_70 : decode cX9_init 70 = .ok (.aload_n 0, 1) := by decide +kernel
theorem dX9_init_71 : decode cX9_init 71 = .ok (.bipush 49, 2) := by decide +kernel
theorem dX9_init_73 : decode cX9_init 73 = .ok (.newarray .int, 2) := by decide +kernel
theorem dX9_init_75 : decode cX9_init 75 = .ok (.putfield 34, 3) := by decide +kernel
theorem dX9_init_78 : decode cX9_init 78 = .ok (.aload_n 0, 1) := by decide +kernel
theorem dX9_init_79 : decode cX9_init 79 = .ok (.bipush 48, 2) := by decide +kernel
theorem dX9_init_81 : decode cX9_init 81 = .ok (.newarray .int, 2) := by decide +kernel
theorem dX9_init_83 : decode cX9_init 83 = .ok (.putfield 37, 3) := by decide +kernel
theorem dX9_init_86 : decode cX9_init 86 = .ok (.aload_n 0, 1) := by decide +kernel
theorem dX9_init_87 : decode cX9_init 87 = .ok (.bipush 49, 2) := by decide +kernel
theorem dX9_init_89 : decode cX9_init 89 = .ok (.newarray .int, 2) := by decide +kernel
theorem dX9_init_91 : decode cX9_init 91 = .ok (.putfield 40, 3) := by decide +kernel
theorem dX9_init_94 : decode cX9_init 94 = .ok (.aload_n 0, 1) := by decide +kernel
theorem dX9_init_95 : decode cX9_init 95 = .ok (.bipush 10, 2) := by decide +kernel
theorem dX9_init_97 : decode cX9_init 97 = .ok (.newarray .int, 2) := by decide +kernel
theorem dX9_init_99 : decode cX9_init 99 = .ok (.putfield 43, 3) := by decide +kernel
theorem dX9_init_102 : decode cX9_init 102 = .ok (.aload_n 0, 1) := by decide +kernel
theorem dX9_init_103 : decode cX9_init 103 = .ok (.bipush 12, 2) := by decide +kernel
theorem dX9_init_105 : decode cX9_init 105 = .ok (.newarray .int, 2) := by decide +kernel
theorem dX9_init_107 : decode cX9_init 107 = .ok (.putfield 46, 3) := by decide +kernel
theorem dX9_init_110 : decode cX9_init 110 = .ok (.aload_n 0, 1) := by decide +kernel
theorem dX9_init_111 : decode cX9_init 111 = .ok (.iconst 5, 1) := by decide +kernel
theorem dX9_init_112 : decode cX9_init 112 = .ok (.newarray .int, 2) := by decide +kernel
theorem dX9_init_114 : decode cX9_init 114 = .ok (.putfield 49, 3) := by decide +kernel
theorem dX9_init_117 : decode cX9_init 117 = .ok (.aload_n 0, 1) := by decide +kernel
theorem dX9_init_118 : decode cX9_init 118 = .ok (.getfield 28, 3) := by decide +kernel
theorem dX9_init_121 : decode cX9_init 121 = .ok (.bipush 80, 2) := by decide +kernel
theorem dX9_init_123 : decode cX9_init 123 = .ok (.bipush 8, 2) := by decide +kernel
theorem dX9_init_125 : decode cX9_init 125 = .ok (.iastore, 1) := by decide +kernel
theorem dX9_init_126 : decode cX9_init 126 = .ok (.aload_n 0, 1) := by decide +kernel
theorem dX9_init_127 : decode cX9_init 127 = .ok (.getfield 28, 3) := by decide +kernel
theorem dX9_init_130 : decode cX9_init 130 = .ok (.bipush 81, 2) := by decide +kernel
theorem dX9_init_132 : decode cX9_init 132 = .ok (.iconst 2, 1) := by decide +kernel
theorem dX9_init_133 : decode cX9_init 133 = .ok (.iastore, 1) := by decide +kernel
theorem dX9_init_134 : decode cX9_init 134 = .ok (.aload_n 0, 1) := by decide +kernel
theorem dX9_init_135 : decode cX9_init 135 = .ok (.iconst 0, 1) := by decide +kernel
theorem dX9_init_136 : decode cX9_init 136 = .ok (.putfield 52, 3) := by decide +kernel
theorem dX9_init_139 : decode cX9_init 139 = .ok (.aload_n 0, 1) := by decide +kernel
theorem dX9_init_140 : decode cX9_init 140 = .ok (.bipush 97, 2) := by decide +kernel
theorem dX9_init_142 : decode cX9_init 142 = .ok (.iconst 5, 1) := by decide +kernel
theorem dX9_init_143 : decode cX9_init 143 = .ok (.bipush 115, 2) := by decide +kernel
theorem dX9_init_145 : decode cX9_init 145 = .ok (.iconst 0, 1) := by decide +kernel
theorem dX9_init_146 : decode cX9_init 146 = .ok (.bipush 97, 2) := by decide +kernel
theorem dX9_init_148 : decode cX9_init 148 = .ok (.iconst 3, 1) := by decide +kernel
theorem dX9_init_149 : decode cX9_init 149 = .ok (.invokevirtual 56, 3) := by decide +kernel
theorem dX9_init_152 : decode cX9_init 152 = .ok (.aload_n 0, 1) := by decide +kernel
theorem dX9_init_153 : decode cX9_init 153 = .ok (.bipush 109, 2) := by decide +kernel
theorem dX9_init_155 : decode cX9_init 155 = .ok (.iconst 2, 1) := by decide +kernel
theorem dX9_init_156 : decode cX9_init 156 = .ok (.bipush 115, 2) := by decide +kernel
theorem dX9_init_158 : decode cX9_init 158 = .ok (.iconst 1, 1) := by decide +kernel
theorem dX9_init_159 : decode cX9_init 159 = .ok (.bipush 119, 2) := by decide +kernel
theorem dX9_init_161 : decode cX9_init 161 = .ok (.iconst 0, 1) := by decide +kernel
theorem dX9_init_162 : decode cX9_init 162 = .ok (.invokevirtual 56, 3) := by decide +kernel
theorem dX9_init_165 : decode cX9_init 165 = .ok (.aload_n 0, 1) := by decide +kernel
theorem dX9_init_166 : decode cX9_init 166 = .ok (.bipush 97, 2) := by decide +kernel
theorem dX9_init_168 : decode cX9_init 168 = .ok (.iconst 5, 1) := by decide +kernel
theorem dX9_init_169 : decode cX9_init 169 = .ok (.bipush 115, 2) := by decide +kernel
theorem dX9_init_171 : decode cX9_init 171 = .ok (.iconst 0, 1) := by decide +kernel
theorem dX9_init_172 : decode cX9_init 172 = .ok (.bipush 97, 2) := by decide +kernel
theorem dX9_init_174 : decode cX9_init 174 = .ok (.bipush 7, 2) := by decide +kernel
theorem dX9_init_176 : decode cX9_init 176 = .ok (.invokevirtual 56, 3) := by decide +kernel
theorem dX9_init_179 : decode cX9_init 179 = .ok (.aload_n 0, 1) := by decide +kernel
theorem dX9_init_180 : decode cX9_init 180 = .ok (.bipush 109, 2) := by decide +kernel
theorem dX9_init_182 : decode cX9_init 182 = .ok (.iconst 2, 1) := by decide +kernel
theorem dX9_init_183 : decode cX9_init 183 = .ok (.bipush 115, 2) := by decide +kernel
theorem dX9_init_185 : decode cX9_init 185 = .ok (.iconst 1, 1) := by decide +kernel
theorem dX9_init_186 : decode cX9_init 186 = .ok (.bipush 119, 2) := by decide +kernel
theorem dX9_init_188 : decode cX9_init 188 = .ok (.iconst 1, 1) := by decide +kernel
theorem dX9_init_189 : decode cX9_init 189 = .ok (.invokevirtual 56, 3) := by decide +kernel
theorem dX9_init_192 : decode cX9_init 192 = .ok (.aload_n 0, 1) := by decide +kernel
theorem dX9_init_193 : decode cX9_init 193 = .ok (.bipush 107, 2) := by decide +kernel
theorem dX9_init_195 : decode cX9_init 195 = .ok (.bipush 14, 2) := by decide +kernel
theorem dX9_init_197 : decode cX9_init 197 = .ok (.bipush 113, 2) := by decide +kernel
theorem dX9_init_199 : decode cX9_init 199 = .ok (.bipush (-4), 2) := by decide +kernel
theorem dX9_init_201 : decode cX9_init 201 = .ok (.bipush 97, 2) := by decide +kernel
theorem dX9_init_203 : decode cX9_init 203 = .ok (.iconst 1, 1) := by decide +kernel
theorem dX9_init_204 : decode cX9_init 204 = .ok (.invokevirtual 56, 3) := by decide +kernel
theorem dX9_init_207 : decode cX9_init 207 = .ok (.aload_n 0, 1) := by decide +kernel
theorem dX9_init_208 : decode cX9_init 208 = .ok (.bipush 97, 2) := by decide +kernel
theorem dX9_init_210 : decode cX9_init 210 = .ok (.iconst 5, 1) := by decide +kernel
theorem dX9_init_211 : decode cX9_init 211 = .ok (.bipush 115, 2) := by decide +kernel
theorem dX9_init_213 : decode cX9_init 213 = .ok (.iconst 0, 1) := by decide +kernel
theorem dX9_init_214 : decode cX9_init 214 = .ok (.bipush 97, 2) := by decide +kernel
theorem dX9_init_216 : decode cX9_init 216 = .ok (.bipush 9, 2) := by decide +kernel
theorem dX9_init_218 : decode cX9_init 218 = .ok (.invokevirtual 56, 3) := by decide +kernel
theorem dX9_init_221 : decode cX9_init 221 = .ok (.aload_n 0, 1) := by decide +kernel
theorem dX9_init_222 : decode cX9_init 222 = .ok (.bipush 109, 2) := by decide +kernel
theorem dX9_init_224 : decode cX9_init 224 = .ok (.iconst 2, 1) := by decide +kernel
theorem dX9_init_225 : decode cX9_init 225 = .ok (.bipush 115, 2) := by decide +kernel
theorem dX9_init_227 : decode cX9_init 227 = .ok (.iconst 1, 1) := by decide +kernel
theorem dX9_init_228 : decode cX9_init 228 = .ok (.bipush 119, 2) := by decide +kernel
theorem dX9_init_230 : decode cX9_init 230 = .ok (.iconst 2, 1) := by decide +kernel
theorem dX9_init_231 : decode cX9_init 231 = .ok (.invokevirtual 56, 3) := by decide +kernel
theorem dX9_init_234 : decode cX9_init 234 = .ok (.aload_n 0, 1) := by decide +kernel
theorem dX9_init_235 : decode cX9_init 235 = .ok (.bipush 108, 2) := by decide +kernel
theorem dX9_init_237 : decode cX9_init 237 = .ok (.iconst 0, 1) := by decide +kernel
theorem dX9_init_238 : decode cX9_init 238 = .ok (.bipush 122, 2) := by decide +kernel
theorem dX9_init_240 : decode cX9_init 240 = .ok (.bipush 26, 2) := by decide +kernel
theorem dX9_init_242 : decode cX9_init 242 = .ok (.bipush 120, 2) := by decide +kernel
theorem dX9_init_244 : decode cX9_init 244 = .ok (.iconst 1, 1) := by decide +kernel
theorem dX9_init_245 : decode cX9_init 245 = .ok (.invokevirtual 56, 3) := by decide +kernel
theorem dX9_init_248 : decode cX9_init 248 = .ok (.aload_n 0, 1) := by decide +kernel
theorem dX9_init_249 : decode cX9_init 249 = .ok (.bipush 115, 2) := by decide +kernel
theorem dX9_init_251 : decode cX9_init 251 = .ok (.iconst 0, 1) := by decide +kernel
theorem dX9_init_252 : decode cX9_init 252 = .ok (.bipush 106, 2) := by decide +kernel
theorem dX9_init_254 : decode cX9_init 254 = .ok (.bipush 16, 2) := by decide +kernel
theorem dX9_init_256 : decode cX9_init 256 = .ok (.bipush 104, 2) := by decide +kernel
theorem dX9_init_258 : decode cX9_init 258 = .ok (.bipush (-4), 2) := by decide +kernel
theorem dX9_init_260 : decode cX9_init 260 = .ok (.invokevirtual 56, 3) := by decide +kernel
theorem dX9_init_263 : decode cX9_init 263 = .ok (.aload_n 0, 1) := by decide +kernel
theorem dX9_init_264 : decode cX9_init 264 = .ok (.invokevirtual 60, 3) := by decide +kernel
theorem dX9_init_267 : decode cX9_init 267 = .ok (.return_, 1) := by decide +kernel
theorem dX9_in_0 : decode cX9_in 0 = .ok (.lload_n 0, 1) := by decide +kernel
theorem dX9_in_1 : decode cX9_in 1 = .ok (.lload_n 2, 1) := by decide +kernel
theorem dX9_in_2 : decode cX9_in 2 = .ok (.lcmp, 1) := by decide +kernel
theorem dX9_in_3 : decode cX9_in 3 = .ok (.ifCond .lt 14, 3) := by decide +kernel
theorem dX9_in_6 : decode cX9_in 6 = .ok (.lload_n 0, 1) := by decide +kernel
theorem dX9_in_7 : decode cX9_in 7 = .ok (.lload 4, 2) := by decide +kernel
theorem dX9_in_9 : decode cX9_in 9 = .ok (.lcmp, 1) := by decide +kernel
theorem dX9_in_10 : decode cX9_in 10 = .ok (.ifCond .gt 7, 3) := by decide +kernel
theorem dX9_in_13 : decode cX9_in 13 = .ok (.iconst 1, 1) := by decide +kernel
theorem dX9_in_14 : decode cX9_in 14 = .ok (.goto 4, 3) := by decide +kernel
theorem dX9_in_17 : decode cX9_in 17 = .ok (.iconst 0, 1) := by decide +kernel
theorem dX9_in_18 : decode cX9_in 18 = .ok (.ireturn, 1) := by decide +kernel
theorem dX9_told_0 : decode cX9_told 0 = .ok (.aload_n 0, 1) := by decide +kernel
theorem dX9_told_1 : decode cX9_told 1 = .ok (.iload_n 1, 1) := by decide +kernel
theorem dX9_told_2 : decode cX9_told 2 = .ok (.iload_n 2, 1) := by decide +kernel
theorem dX9_told_3 : decode cX9_told 3 = .ok (.invokevirtual 63, 3) := by decide +kernel
theorem dX9_told_6 : decode cX9_told 6 = .ok (.aload_n 0, 1) := by decide +kernel
theorem dX9_told_7 : decode cX9_told 7 = .ok (.iload_n 3, 1) := by decide +kernel
theorem dX9_told_8 : decode cX9_told 8 = .ok (.iload 4, 2) := by decide +kernel
theorem dX9_told_10 : decode cX9_told 10 = .ok (.invokevirtual 63, 3) := by decide +kernel
theorem dX9_told_13 : decode cX9_told 13 = .ok (.aload_n 0, 1) := by decide +kernel
theorem dX9_told_14 : decode cX9_told 14 = .ok (.iload 5, 2) := by decide +kernel
theorem dX9_told_16 : decode cX9_told 16 = .ok (.iload 6, 2) := by decide +kernel
theorem dX9_told_18 : decode cX9_told 18 = .ok (.invokevirtual 63, 3) := by decide +kernel
theorem dX9_told_21 : decode cX9_told 21 = .ok (.return_, 1) := by decide +kernel
theorem dX9_oneIs_0 : decode cX9_oneIs 0 = .ok (.aload_n 0, 1) := by decide +kernel
theorem dX9_oneIs_1 : decode cX9_oneIs 1 = .ok (.getfield 13, 3) := by decide +kernel
theorem dX9_oneIs_4 : decode cX9_oneIs 4 = .ok (.aload_n 0, 1) := by decide +kernel
theorem dX9_oneIs_5 : decode cX9_oneIs 5 = .ok (.getfield 52, 3) := by decide +kernel
theorem dX9_oneIs_8 : decode cX9_oneIs 8 = .ok (.iload_n 1, 1) := by decide +kernel
theorem dX9_oneIs_9 : decode cX9_oneIs 9 = .ok (.iastore, 1) := by decide +kernel
theorem dX9_oneIs_10 : decode cX9_oneIs 10 = .ok (.aload_n 0, 1) := by decide +kernel
theorem dX9_oneIs_11 : decode cX9_oneIs 11 = .ok (.getfield 16, 3) := by decide +kernel
theorem dX9_oneIs_14 : decode cX9_oneIs 14 = .ok (.aload_n 0, 1) := by decide +kernel
theorem dX9_oneIs_15 : decode cX9_oneIs 15 = .ok (.getfield 52, 3) := by decide +kernel
theorem dX9_oneIs_18 : decode cX9_oneIs 18 = .ok (.iload_n 2, 1) := by decide +kernel
theorem dX9_oneIs_19 : decode cX9_oneIs 19 = .ok (.iastore, 1) := by decide +kernel
theorem dX9_oneIs_20 : decode cX9_oneIs 20 = .ok (.aload_n 0, 1) := by decide +kernel
theorem dX9_oneIs_21 : decode cX9_oneIs 21 = .ok (.dup, 1) := by decide +kernel
theorem dX9_oneIs_22 : decode cX9_oneIs 22 = .ok (.getfield 52, 3) := by decide +kernel
theorem dX9_oneIs_25 : decode cX9_oneIs 25 = .ok (.iconst 1, 1) := by decide +kernel
theorem dX9_oneIs_26 : decode cX9_oneIs 26 = .ok (.iadd, 1) := by decide +kernel
theorem dX9_oneIs_27 : decode cX9_oneIs 27 = .ok (.putfield 52, 3) := by decide +kernel
theorem dX9_oneIs_30 : decode cX9_oneIs 30 = .ok (.return_, 1) := by decide +kernel
theorem dX9_write_0 : decode cX9_write 0 = .ok (.iload_n 1, 1) := by decide +kernel
theorem dX9_write_1 : decode cX9_write 1 = .ok (.i2l, 1) := by decide +kernel
theorem dX9_write_2 : decode cX9_write 2 = .ok (.ldc2_w 67, 3) := by decide +kernel
theorem dX9_write_5 : decode cX9_write 5 = .ok (.ldc2_w 69, 3) := by decide +kernel
theorem dX9_write_8 : decode cX9_write 8 = .ok (.invokestatic 71, 3) := by decide +kernel
theorem dX9_write_11 : decode cX9_write 11 = .ok (.ifCond .ne 5, 3) := by decide +kernel
theorem dX9_write_14 : decode cX9_write 14 = .ok (.iconst (-1), 1) := by decide +kernel
theorem dX9_write_15 : decode cX9_write 15 = .ok (.ireturn, 1) := by decide +kernel
theorem dX9_write_16 : decode cX9_write 16 = .ok (.aload_n 0, 1) := by decide +kernel
theorem dX9_write_17 : decode cX9_write 17 = .ok (.getfield 75, 3) := by decide +kernel
theorem dX9_write_20 : decode cX9_write 20 = .ok (.sipush 200, 3) := by decide +kernel
theorem dX9_write_23 : decode cX9_write 23 = .ok (.if_icmp .ne 6, 3) := by decide +kernel
theorem dX9_write_26 : decode cX9_write 26 = .ok (.bipush (-3), 2) := by decide +kernel
theorem dX9_write_28 : decode cX9_write 28 = .ok (.ireturn, 1) := by decide +kernel
theorem dX9_write_29 : decode cX9_write 29 = .ok (.aload_n 0, 1) := by decide +kernel
theorem dX9_write_30 : decode cX9_write 30 = .ok (.getfield 7, 3) := by decide +kernel
theorem dX9_write_33 : decode cX9_write 33 = .ok (.aload_n 0, 1) := by decide +kernel
theorem dX9_write_34 : decode cX9_write 34 = .ok (.getfield 75, 3) := by decide +kernel
theorem dX9_write_37 : decode cX9_write 37 = .ok (.iload_n 1, 1) := by decide +kernel
theorem dX9_write_38 : decode cX9_write 38 = .ok (.iastore, 1) := by decide +kernel
theorem dX9_write_39 : decode cX9_write 39 = .ok (.aload_n 0, 1) := by decide +kernel
theorem dX9_write_40 : decode cX9_write 40 = .ok (.dup, 1) := by decide +kernel
theorem dX9_write_41 : decode cX9_write 41 = .ok (.getfield 75, 3) := by decide +kernel
theorem dX9_write_44 : decode cX9_write 44 = .ok (.iconst 1, 1) := by decide +kernel
theorem dX9_write_45 : decode cX9_write 45 = .ok (.iadd, 1) := by decide +kernel
theorem dX9_write_46 : decode cX9_write 46 = .ok (.putfield 75, 3) := by decide +kernel
theorem dX9_write_49 : decode cX9_write 49 = .ok (.aload_n 0, 1) := by decide +kernel
theorem dX9_write_50 : decode cX9_write 50 = .ok (.getfield 75, 3) := by decide +kernel
theorem dX9_write_53 : decode cX9_write 53 = .ok (.ireturn, 1) := by decide +kernel
theorem dX9_wipe_0 : decode cX9_wipe 0 = .ok (.aload_n 0, 1) := by decide +kernel
theorem dX9_wipe_1 : decode cX9_wipe 1 = .ok (.getfield 75, 3) := by decide +kernel
theorem dX9_wipe_4 : decode cX9_wipe 4 = .ok (.istore_n 1, 1) := by decide +kernel
theorem dX9_wipe_5 : decode cX9_wipe 5 = .ok (.aload_n 0, 1) := by decide +kernel
theorem dX9_wipe_6 : decode cX9_wipe 6 = .ok (.iconst 0, 1) := by decide +kernel
theorem dX9_wipe_7 : decode cX9_wipe 7 = .ok (.putfield 75, 3) := by decide +kernel
theorem dX9_wipe_10 : decode cX9_wipe 10 = .ok (.iload_n 1, 1) := by decide +kernel
theorem dX9_wipe_11 : decode cX9_wipe 11 = .ok (.ireturn, 1) := by decide +kernel
theorem dX9_isSimple_0 : decode cX9_isSimple 0 = .ok (.iload_n 0, 1) := by decide +kernel
theorem dX9_isSimple_1 : decode cX9_isSimple 1 = .ok (.bipush 97, 2) := by decide +kernel
theorem dX9_isSimple_3 : decode cX9_isSimple 3 = .ok (.if_icmp .eq 39, 3) := by decide +kernel
theorem dX9_isSimple_6 : decode cX9_isSimple 6 = .ok (.iload_n 0, 1) := by decide +kernel
theorem dX9_isSimple_7 : decode cX9_isSimple 7 = .ok (.bipush 109, 2) := by decide +kernel
theorem dX9_isSimple_9 : decode cX9_isSimple 9 = .ok (.if_icmp .eq 33, 3) := by decide +kernel
theorem dX9_isSimple_12 : decode cX9_isSimple 12 = .ok (.iload_n 0, 1) := by decide +kernel
theorem dX9_isSimple_13 : decode cX9_isSimple 13 = .ok (.bipush 120, 2) := by decide +kernel
theorem dX9_isSimple_15 : decode cX9_isSimple 15 = .ok (.if_icmp .eq 27, 3) := by decide +kernel
theorem dX9_isSimple_18 : decode cX9_isSimple 18 = .ok (.iload_n 0, 1) := by decide +kernel
theorem dX9_isSimple_19 : decode cX9_isSimple 19 = .ok (.bipush 115, 2) := by decide +kernel
theorem dX9_isSimple_21 : decode cX9_isSimple 21 = .ok (.if_icmp .eq 21, 3) := by decide +kernel
theorem dX9_isSimple_24 : decode cX9_isSimple 24 = .ok (.iload_n 0, 1) := by decide +kernel
theorem dX9_isSimple_25 : decode cX9_isSimple 25 = .ok (.bipush 108, 2) := by decide +kernel
theorem dX9_isSimple_27 : decode cX9_isSimple 27 = .ok (.if_icmp .eq 15, 3) := by decide +kernel
theorem dX9_isSimple_30 : decode cX9_isSimple 30 = .ok (.iload_n 0, 1) := by decide +kernel
theorem dX9_isSimple_31 : decode cX9_isSimple 31 = .ok (.bipush 112, 2) := by decide +kernel
theorem dX9_isSimple_33 : decode cX9_isSimple 33 = .ok (.if_icmp .eq 9, 3) := by decide +kernel
theorem dX9_isSimple_36 : decode cX9_isSimple 36 = .ok (.iload_n 0, 1) := by decide +kernel
theorem dX9_isSimple_37 : decode cX9_isSimple 37 = .ok (.bipush 119, 2) := by decide +kernel
theorem dX9_isSimple_39 : decode cX9_isSimple 39 = .ok (.if_icmp .ne 7, 3) := by decide +kernel
theorem dX9_isSimple_42 : decode cX9_isSimple 42 = .ok (.iconst 1, 1) := by decide +kernel
theorem dX9_isSimple_43 : decode cX9_isSimple 43 = .ok (.goto 4, 3) := by decide +kernel
theorem dX9_isSimple_46 : decode cX9_isSimple 46 = .ok (.iconst 0, 1) := by decide +kernel
theorem dX9_isSimple_47 : decode cX9_isSimple 47 = .ok (.ireturn, 1) := by decide +kernel
theorem dX9_hasPlace_0 : decode cX9_hasPlace 0 = .ok (.iload_n 0, 1) := by decide +kernel
theorem dX9_hasPlace_1 : decode cX9_hasPlace 1 = .ok (.bipush 106, 2) := by decide +kernel
theorem dX9_hasPlace_3 : decode cX9_hasPlace 3 = .ok (.if_icmp .eq 15, 3) := by decide +kernel
theorem dX9_hasPlace_6 : decode cX9_hasPlace 6 = .ok (.iload_n 0, 1) := by decide +kernel
theorem dX9_hasPlace_7 : decode cX9_hasPlace 7 = .ok (.bipush 122, 2) := by decide +kernel
theorem dX9_hasPlace_9 : decode cX9_hasPlace 9 = .ok (.if_icmp .eq 9, 3) := by decide +kernel
theorem dX9_hasPlace_12 : decode cX9_hasPlace 12 = .ok (.iload_n 0, 1) := by decide +kernel
theorem dX9_hasPlace_13 : decode cX9_hasPlace 13 = .ok (.bipush 107, 2) := by decide +kernel
theorem dX9_hasPlace_15 : decode cX9_hasPlace 15 = .ok (.if_icmp .ne 7, 3) := by decide +kernel
theorem dX9_hasPlace_18 : decode cX9_hasPlace 18 = .ok (.iconst 1, 1) := by decide +kernel
theorem dX9_hasPlace_19 : decode cX9_hasPlace 19 = .ok (.goto 4, 3) := by decide +kernel
theorem dX9_hasPlace_22 : decode cX9_hasPlace 22 = .ok (.iconst 0, 1) := by decide +kernel
theorem dX9_hasPlace_23 : decode cX9_hasPlace 23 = .ok (.ireturn, 1) := by decide +kernel
theorem dX9_figureAt_0 : decode cX9_figureAt 0 = .ok (.iload_n 1, 1) := by decide +kernel
theorem dX9_figureAt_1 : decode cX9_figureAt 1 = .ok (.aload_n 0, 1) := by decide +kernel
theorem dX9_figureAt_2 : decode cX9_figureAt 2 = .ok (.getfield 75, 3) := by decide +kernel
theorem dX9_figureAt_5 : decode cX9_figureAt 5 = .ok (.if_icmp .ge 34, 3) := by decide +kernel
theorem dX9_figureAt_8 : decode cX9_figureAt 8 = .ok (.aload_n 0, 1) := by decide +kernel
theorem dX9_figureAt_9 : decode cX9_figureAt 9 = .ok (.getfield 7, 3) := by decide +kernel
theorem dX9_figureAt_12 : decode cX9_figureAt 12 = .ok (.iload_n 1, 1) := by decide +kernel
theorem dX9_figureAt_13 : decode cX9_figureAt 13 = .ok (.iaload, 1) := by decide +kernel
theorem dX9_figureAt_14 : decode cX9_figureAt 14 = .ok (.i2l, 1) := by decide +kernel
theorem dX9_figureAt_15 : decode cX9_figureAt 15 = .ok (.ldc2_w 78, 3) := by decide +kernel
theorem dX9_figureAt_18 : decode cX9_figureAt 18 = .ok (.ldc2_w 80, 3) := by decide +kernel
theorem dX9_figureAt_21 : decode cX9_figureAt 21 = .ok (.invokestatic 71, 3) := by decide +kernel
theorem dX9_figureAt_24 : decode cX9_figureAt 24 = .ok (.ifCond .eq 15, 3) := by decide +kernel
theorem dX9_figureAt_27 : decode cX9_figureAt 27 = .ok (.aload_n 0, 1) := by decide +kernel
theorem dX9_figureAt_28 : decode cX9_figureAt 28 = .ok (.getfield 7, 3) := by decide +kernel
theorem dX9_figureAt_31 : decode cX9_figureAt 31 = .ok (.iload_n 1, 1) := by decide +kernel
theorem dX9_figureAt_32 : decode cX9_figureAt 32 = .ok (.iaload, 1) := by decide +kernel
theorem dX9_figureAt_33 : decode cX9_figureAt 33 = .ok (.bipush 48, 2) := by decide +kernel
theorem dX9_figureAt_35 : decode cX9_figureAt 35 = .ok (.isub, 1) := by decide +kernel
theorem dX9_figureAt_36 : decode cX9_figureAt 36 = .ok (.goto 5, 3) := by decide +kernel
theorem dX9_figureAt_39 : decode cX9_figureAt 39 = .ok (.bipush (-4), 2) := by decide +kernel
theorem dX9_figureAt_41 : decode cX9_figureAt 41 = .ok (.ireturn, 1) := by decide +kernel
theorem dX9_readOne_0 : decode cX9_readOne 0 = .ok (.aload_n 0, 1) := by decide +kernel
theorem dX9_readOne_1 : decode cX9_readOne 1 = .ok (.getfield 7, 3) := by decide +kernel
theorem dX9_readOne_4 : decode cX9_readOne 4 = .ok (.iload_n 1, 1) := by decide +kernel
theorem dX9_readOne_5 : decode cX9_readOne 5 = .ok (.iaload, 1) := by decide +kernel
theorem dX9_readOne_6 : decode cX9_readOne 6 = .ok (.istore_n 2, 1) := by decide +kernel
theorem dX9_readOne_7 : decode cX9_readOne 7 = .ok (.aload_n 0, 1) := by decide +kernel
theorem dX9_readOne_8 : decode cX9_readOne 8 = .ok (.iload_n 1, 1) := by decide +kernel
theorem dX9_readOne_9 : decode cX9_readOne 9 = .ok (.iconst 1, 1) := by decide +kernel
theorem dX9_readOne_10 : decode cX9_readOne 10 = .ok (.iadd, 1) := by decide +kernel
theorem dX9_readOne_11 : decode cX9_readOne 11 = .ok (.invokevirtual 82, 3) := by decide +kernel
theorem dX9_readOne_14 : decode cX9_readOne 14 = .ok (.istore_n 3, 1) := by decide +kernel
theorem dX9_readOne_15 : decode cX9_readOne 15 = .ok (.aload_n 0, 1) := by decide +kernel
theorem dX9_readOne_16 : decode cX9_readOne 16 = .ok (.iload_n 1, 1) := by decide +kernel
theorem dX9_readOne_17 : decode cX9_readOne 17 = .ok (.iconst 2, 1) := by decide +kernel
theorem dX9_readOne_18 : decode cX9_readOne 18 = .ok (.iadd, 1) := by decide +kernel
theorem dX9_readOne_19 : decode cX9_readOne 19 = .ok (.invokevirtual 82, 3) := by decide +kernel
theorem dX9_readOne_22 : decode cX9_readOne 22 = .ok (.istore 4, 2) := by decide +kernel
theorem dX9_readOne_24 : decode cX9_readOne 24 = .ok (.aload_n 0, 1) := by decide +kernel
theorem dX9_readOne_25 : decode cX9_readOne 25 = .ok (.getfield 52, 3) := by decide +kernel
theorem dX9_readOne_28 : decode cX9_readOne 28 = .ok (.bipush 48, 2) := by decide +kernel
theorem dX9_readOne_30 : decode cX9_readOne 30 = .ok (.if_icmp .ne 6, 3) := by decide +kernel
theorem dX9_readOne_33 : decode cX9_readOne 33 = .ok (.bipush (-4), 2) := by decide +kernel
theorem dX9_readOne_35 : decode cX9_readOne 35 = .ok (.ireturn, 1) := by decide +kernel
theorem dX9_readOne_36 : decode cX9_readOne 36 = .ok (.iload_n 2, 1) := by decide +kernel
theorem dX9_readOne_37 : decode cX9_readOne 37 = .ok (.invokestatic 86, 3) := by decide +kernel
theorem dX9_readOne_40 : decode cX9_readOne 40 = .ok (.ifCond .eq 17, 3) := by decide +kernel
theorem dX9_readOne_43 : decode cX9_readOne 43 = .ok (.iload_n 3, 1) := by decide +kernel
theorem dX9_readOne_44 : decode cX9_readOne 44 = .ok (.bipush (-4), 2) := by decide +kernel
theorem dX9_readOne_46 : decode cX9_readOne 46 = .ok (.if_icmp .eq 11, 3) := by decide +kernel
theorem dX9_readOne_49 : decode cX9_readOne 49 = .ok (.aload_n 0, 1) := by decide +kernel
theorem dX9_readOne_50 : decode cX9_readOne 50 = .ok (.iload_n 2, 1) := by decide +kernel
theorem dX9_readOne_51 : decode cX9_readOne 51 = .ok (.iload_n 3, 1) := by decide +kernel
theorem dX9_readOne_52 : decode cX9_readOne 52 = .ok (.invokevirtual 63, 3) := by decide +kernel
theorem dX9_readOne_55 : decode cX9_readOne 55 = .ok (.iconst 2, 1) := by decide +kernel
theorem dX9_readOne_56 : decode cX9_readOne 56 = .ok (.ireturn, 1) := by decide +kernel
theorem dX9_readOne_57 : decode cX9_readOne 57 = .ok (.iload_n 2, 1) := by decide +kernel
theorem dX9_readOne_58 : decode cX9_readOne 58 = .ok (.invokestatic 90, 3) := by decide +kernel
theorem dX9_readOne_61 : decode cX9_readOne 61 = .ok (.ifCond .eq 30, 3) := by decide +kernel
theorem dX9_readOne_64 : decode cX9_readOne 64 = .ok (.iload_n 3, 1) := by decide +kernel
theorem dX9_readOne_65 : decode cX9_readOne 65 = .ok (.bipush (-4), 2) := by decide +kernel
theorem dX9_readOne_67 : decode cX9_readOne 67 = .ok (.if_icmp .eq 24, 3) := by decide +kernel
theorem dX9_readOne_70 : decode cX9_readOne 70 = .ok (.iload 4, 2) := by decide +kernel
theorem dX9_readOne_72 : decode cX9_readOne 72 = .ok (.bipush (-4), 2) := by decide +kernel
theorem dX9_readOne_74 : decode cX9_readOne 74 = .ok (.if_icmp .eq 17, 3) := by decide +kernel
theorem dX9_readOne_77 : decode cX9_readOne 77 = .ok (.aload_n 0, 1) := by decide +kernel
theorem dX9_readOne_78 : decode cX9_readOne 78 = .ok (.iload_n 2, 1) := by decide +kernel
theorem dX9_readOne_79 : decode cX9_readOne 79 = .ok (.bipush 10, 2) := by decide +kernel
theorem dX9_readOne_81 : decode cX9_readOne 81 = .ok (.iload_n 3, 1) := by decide +kernel
theorem dX9_readOne_82 : decode cX9_readOne 82 = .ok (.imul, 1) := by decide +kernel
theorem dX9_readOne_83 : decode cX9_readOne 83 = .ok (.iload 4, 2) := by decide +kernel
theorem dX9_readOne_85 : decode cX9_readOne 85 = .ok (.iadd, 1) := by decide +kernel
theorem dX9_readOne_86 : decode cX9_readOne 86 = .ok (.invokevirtual 63, 3) := by decide +kernel
theorem dX9_readOne_89 : decode cX9_readOne 89 = .ok (.iconst 3, 1) := by decide +kernel
theorem dX9_readOne_90 : decode cX9_readOne 90 = .ok (.ireturn, 1) := by decide +kernel
theorem dX9_readOne_91 : decode cX9_readOne 91 = .ok (.iload_n 2, 1) := by decide +kernel
theorem dX9_readOne_92 : decode cX9_readOne 92 = .ok (.bipush 113, 2) := by decide +kernel
theorem dX9_readOne_94 : decode cX9_readOne 94 = .ok (.if_icmp .eq 9, 3) := by decide +kernel
theorem dX9_readOne_97 : decode cX9_readOne 97 = .ok (.iload_n 2, 1) := by decide +kernel
theorem dX9_readOne_98 : decode cX9_readOne 98 = .ok (.bipush 104, 2) := by decide +kernel
theorem dX9_readOne_100 : decode cX9_readOne 100 = .ok (.if_icmp .ne 12, 3) := by decide +kernel
theorem dX9_readOne_103 : decode cX9_readOne 103 = .ok (.aload_n 0, 1) := by decide +kernel
theorem dX9_readOne_104 : decode cX9_readOne 104 = .ok (.iload_n 2, 1) := by decide +kernel
theorem dX9_readOne_105 : decode cX9_readOne 105 = .ok (.bipush (-4), 2) := by decide +kernel
theorem dX9_readOne_107 : decode cX9_readOne 107 = .ok (.invokevirtual 63, 3) := by decide +kernel
theorem dX9_readOne_110 : decode cX9_readOne 110 = .ok (.iconst 1, 1) := by decide +kernel
theorem dX9_readOne_111 : decode cX9_readOne 111 = .ok (.ireturn, 1) := by decide +kernel
theorem dX9_readOne_112 : decode cX9_readOne 112 = .ok (.bipush (-4), 2) := by decide +kernel
end
section
theorem dX9_readOne_114 : decode cX9_readOne 114 = .ok (.ireturn, 1) := by decide +kernel
theorem dX9_lettersOf_0 : decode cX9_lettersOf 0 = .ok (.iload_n 0, 1) := by decide +kernel
theorem dX9_lettersOf_1 : decode cX9_lettersOf 1 = .ok (.invokestatic 86, 3) := by decide +kernel
theorem dX9_lettersOf_4 : decode cX9_lettersOf 4 = .ok (.ifCond .eq 7, 3) := by decide +kernel
theorem dX9_lettersOf_7 : decode cX9_lettersOf 7 = .ok (.iconst 2, 1) := by decide +kernel
theorem dX9_lettersOf_8 : decode cX9_lettersOf 8 = .ok (.goto 15, 3) := by decide +kernel
theorem dX9_lettersOf_11 : decode cX9_lettersOf 11 = .ok (.iload_n 0, 1) := by decide +kernel
theorem dX9_lettersOf_12 : decode cX9_lettersOf 12 = .ok (.invokestatic 90, 3) := by decide +kernel
theorem dX9_lettersOf_15 : decode cX9_lettersOf 15 = .ok (.ifCond .eq 7, 3) := by decide +kernel
theorem dX9_lettersOf_18 : decode cX9_lettersOf 18 = .ok (.iconst 3, 1) := by decide +kernel
theorem dX9_lettersOf_19 : decode cX9_lettersOf 19 = .ok (.goto 4, 3) := by decide +kernel
theorem dX9_lettersOf_22 : decode cX9_lettersOf 22 = .ok (.iconst 1, 1) := by decide +kernel
theorem dX9_lettersOf_23 : decode cX9_lettersOf 23 = .ok (.ireturn, 1) := by decide +kernel
theorem dX9_fault_0 : decode cX9_fault 0 = .ok (.aload_n 0, 1) := by decide +kernel
theorem dX9_fault_1 : decode cX9_fault 1 = .ok (.iconst 0, 1) := by decide +kernel
theorem dX9_fault_2 : decode cX9_fault 2 = .ok (.putfield 52, 3) := by decide +kernel
theorem dX9_fault_5 : decode cX9_fault 5 = .ok (.iconst 0, 1) := by decide +kernel
theorem dX9_fault_6 : decode cX9_fault 6 = .ok (.istore_n 1, 1) := by decide +kernel
theorem dX9_fault_7 : decode cX9_fault 7 = .ok (.iload_n 1, 1) := by decide +kernel
theorem dX9_fault_8 : decode cX9_fault 8 = .ok (.aload_n 0, 1) := by decide +kernel
theorem dX9_fault_9 : decode cX9_fault 9 = .ok (.getfield 75, 3) := by decide +kernel
theorem dX9_fault_12 : decode cX9_fault 12 = .ok (.if_icmp .ge 24, 3) := by decide +kernel
theorem dX9_fault_15 : decode cX9_fault 15 = .ok (.aload_n 0, 1) := by decide +kernel
theorem dX9_fault_16 : decode cX9_fault 16 = .ok (.iload_n 1, 1) := by decide +kernel
theorem dX9_fault_17 : decode cX9_fault 17 = .ok (.invokevirtual 93, 3) := by decide +kernel
theorem dX9_fault_20 : decode cX9_fault 20 = .ok (.istore_n 2, 1) := by decide +kernel
theorem dX9_fault_21 : decode cX9_fault 21 = .ok (.iload_n 2, 1) := by decide +kernel
theorem dX9_fault_22 : decode cX9_fault 22 = .ok (.bipush (-4), 2) := by decide +kernel
theorem dX9_fault_24 : decode cX9_fault 24 = .ok (.if_icmp .ne 5, 3) := by decide +kernel
theorem dX9_fault_27 : decode cX9_fault 27 = .ok (.iload_n 1, 1) := by decide +kernel
theorem dX9_fault_28 : decode cX9_fault 28 = .ok (.ireturn, 1) := by decide +kernel
theorem dX9_fault_29 : decode cX9_fault 29 = .ok (.iload_n 1, 1) := by decide +kernel
theorem dX9_fault_30 : decode cX9_fault 30 = .ok (.iload_n 2, 1) := by decide +kernel
theorem dX9_fault_31 : decode cX9_fault 31 = .ok (.iadd, 1) := by decide +kernel
theorem dX9_fault_32 : decode cX9_fault 32 = .ok (.istore_n 1, 1) := by decide +kernel
theorem dX9_fault_33 : decode cX9_fault 33 = .ok (.goto (-26), 3) := by decide +kernel
theorem dX9_fault_36 : decode cX9_fault 36 = .ok (.iconst 0, 1) := by decide +kernel
theorem dX9_fault_37 : decode cX9_fault 37 = .ok (.istore_n 1, 1) := by decide +kernel
theorem dX9_fault_38 : decode cX9_fault 38 = .ok (.iconst 0, 1) := by decide +kernel
theorem dX9_fault_39 : decode cX9_fault 39 = .ok (.istore_n 2, 1) := by decide +kernel
theorem dX9_fault_40 : decode cX9_fault 40 = .ok (.iload_n 2, 1) := by decide +kernel
theorem dX9_fault_41 : decode cX9_fault 41 = .ok (.aload_n 0, 1) := by decide +kernel
theorem dX9_fault_42 : decode cX9_fault 42 = .ok (.getfield 52, 3) := by decide +kernel
theorem dX9_fault_45 : decode cX9_fault 45 = .ok (.if_icmp .ge 48, 3) := by decide +kernel
theorem dX9_fault_48 : decode cX9_fault 48 = .ok (.aload_n 0, 1) := by decide +kernel
theorem dX9_fault_49 : decode cX9_fault 49 = .ok (.getfield 13, 3) := by decide +kernel
theorem dX9_fault_52 : decode cX9_fault 52 = .ok (.iload_n 2, 1) := by decide +kernel
theorem dX9_fault_53 : decode cX9_fault 53 = .ok (.iaload, 1) := by decide +kernel
theorem dX9_fault_54 : decode cX9_fault 54 = .ok (.invokestatic 90, 3) := by decide +kernel
theorem dX9_fault_57 : decode cX9_fault 57 = .ok (.ifCond .eq 18, 3) := by decide +kernel
theorem dX9_fault_60 : decode cX9_fault 60 = .ok (.aload_n 0, 1) := by decide +kernel
theorem dX9_fault_61 : decode cX9_fault 61 = .ok (.getfield 16, 3) := by decide +kernel
theorem dX9_fault_64 : decode cX9_fault 64 = .ok (.iload_n 2, 1) := by decide +kernel
theorem dX9_fault_65 : decode cX9_fault 65 = .ok (.iaload, 1) := by decide +kernel
theorem dX9_fault_66 : decode cX9_fault 66 = .ok (.aload_n 0, 1) := by decide +kernel
theorem dX9_fault_67 : decode cX9_fault 67 = .ok (.getfield 52, 3) := by decide +kernel
theorem dX9_fault_70 : decode cX9_fault 70 = .ok (.if_icmp .lt 5, 3) := by decide +kernel
theorem dX9_fault_73 : decode cX9_fault 73 = .ok (.iload_n 1, 1) := by decide +kernel
theorem dX9_fault_74 : decode cX9_fault 74 = .ok (.ireturn, 1) := by decide +kernel
theorem dX9_fault_75 : decode cX9_fault 75 = .ok (.iload_n 1, 1) := by decide +kernel
theorem dX9_fault_76 : decode cX9_fault 76 = .ok (.aload_n 0, 1) := by decide +kernel
theorem dX9_fault_77 : decode cX9_fault 77 = .ok (.getfield 13, 3) := by decide +kernel
theorem dX9_fault_80 : decode cX9_fault 80 = .ok (.iload_n 2, 1) := by decide +kernel
theorem dX9_fault_81 : decode cX9_fault 81 = .ok (.iaload, 1) := by decide +kernel
theorem dX9_fault_82 : decode cX9_fault 82 = .ok (.invokestatic 96, 3) := by decide +kernel
theorem dX9_fault_85 : decode cX9_fault 85 = .ok (.iadd, 1) := by decide +kernel
theorem dX9_fault_86 : decode cX9_fault 86 = .ok (.istore_n 1, 1) := by decide +kernel
theorem dX9_fault_87 : decode cX9_fault 87 = .ok (.iinc 2 1, 3) := by decide +kernel
theorem dX9_fault_90 : decode cX9_fault 90 = .ok (.goto (-50), 3) := by decide +kernel
theorem dX9_fault_93 : decode cX9_fault 93 = .ok (.bipush (-4), 2) := by decide +kernel
theorem dX9_fault_95 : decode cX9_fault 95 = .ok (.ireturn, 1) := by decide +kernel
theorem dX9_lay_0 : decode cX9_lay 0 = .ok (.aload_n 0, 1) := by decide +kernel
theorem dX9_lay_1 : decode cX9_lay 1 = .ok (.invokevirtual 99, 3) := by decide +kernel
theorem dX9_lay_4 : decode cX9_lay 4 = .ok (.bipush (-4), 2) := by decide +kernel
theorem dX9_lay_6 : decode cX9_lay 6 = .ok (.if_icmp .ne 10, 3) := by decide +kernel
theorem dX9_lay_9 : decode cX9_lay 9 = .ok (.aload_n 0, 1) := by decide +kernel
theorem dX9_lay_10 : decode cX9_lay 10 = .ok (.getfield 52, 3) := by decide +kernel
theorem dX9_lay_13 : decode cX9_lay 13 = .ok (.ifCond .ne 6, 3) := by decide +kernel
theorem dX9_lay_16 : decode cX9_lay 16 = .ok (.bipush (-2), 2) := by decide +kernel
theorem dX9_lay_18 : decode cX9_lay 18 = .ok (.ireturn, 1) := by decide +kernel
theorem dX9_lay_19 : decode cX9_lay 19 = .ok (.aload_n 0, 1) := by decide +kernel
theorem dX9_lay_20 : decode cX9_lay 20 = .ok (.invokevirtual 60, 3) := by decide +kernel
theorem dX9_lay_23 : decode cX9_lay 23 = .ok (.aload_n 0, 1) := by decide +kernel
theorem dX9_lay_24 : decode cX9_lay 24 = .ok (.getfield 103, 3) := by decide +kernel
theorem dX9_lay_27 : decode cX9_lay 27 = .ok (.ireturn, 1) := by decide +kernel
theorem dX9_begin_0 : decode cX9_begin 0 = .ok (.aload_n 0, 1) := by decide +kernel
theorem dX9_begin_1 : decode cX9_begin 1 = .ok (.aload_n 0, 1) := by decide +kernel
theorem dX9_begin_2 : decode cX9_begin 2 = .ok (.getfield 52, 3) := by decide +kernel
theorem dX9_begin_5 : decode cX9_begin 5 = .ok (.putfield 103, 3) := by decide +kernel
theorem dX9_begin_8 : decode cX9_begin 8 = .ok (.iconst 0, 1) := by decide +kernel
theorem dX9_begin_9 : decode cX9_begin 9 = .ok (.istore_n 1, 1) := by decide +kernel
theorem dX9_begin_10 : decode cX9_begin 10 = .ok (.iload_n 1, 1) := by decide +kernel
theorem dX9_begin_11 : decode cX9_begin 11 = .ok (.aload_n 0, 1) := by decide +kernel
theorem dX9_begin_12 : decode cX9_begin 12 = .ok (.getfield 103, 3) := by decide +kernel
theorem dX9_begin_15 : decode cX9_begin 15 = .ok (.if_icmp .ge 40, 3) := by decide +kernel
theorem dX9_begin_18 : decode cX9_begin 18 = .ok (.aload_n 0, 1) := by decide +kernel
theorem dX9_begin_19 : decode cX9_begin 19 = .ok (.getfield 19, 3) := by decide +kernel
theorem dX9_begin_22 : decode cX9_begin 22 = .ok (.iload_n 1, 1) := by decide +kernel
theorem dX9_begin_23 : decode cX9_begin 23 = .ok (.aload_n 0, 1) := by decide +kernel
theorem dX9_begin_24 : decode cX9_begin 24 = .ok (.getfield 13, 3) := by decide +kernel
theorem dX9_begin_27 : decode cX9_begin 27 = .ok (.iload_n 1, 1) := by decide +kernel
theorem dX9_begin_28 : decode cX9_begin 28 = .ok (.iaload, 1) := by decide +kernel
theorem dX9_begin_29 : decode cX9_begin 29 = .ok (.iastore, 1) := by decide +kernel
theorem dX9_begin_30 : decode cX9_begin 30 = .ok (.aload_n 0, 1) := by decide +kernel
theorem dX9_begin_31 : decode cX9_begin 31 = .ok (.getfield 22, 3) := by decide +kernel
theorem dX9_begin_34 : decode cX9_begin 34 = .ok (.iload_n 1, 1) := by decide +kernel
theorem dX9_begin_35 : decode cX9_begin 35 = .ok (.aload_n 0, 1) := by decide +kernel
theorem dX9_begin_36 : decode cX9_begin 36 = .ok (.getfield 16, 3) := by decide +kernel
theorem dX9_begin_39 : decode cX9_begin 39 = .ok (.iload_n 1, 1) := by decide +kernel
theorem dX9_begin_40 : decode cX9_begin 40 = .ok (.iaload, 1) := by decide +kernel
theorem dX9_begin_41 : decode cX9_begin 41 = .ok (.iastore, 1) := by decide +kernel
theorem dX9_begin_42 : decode cX9_begin 42 = .ok (.aload_n 0, 1) := by decide +kernel
theorem dX9_begin_43 : decode cX9_begin 43 = .ok (.getfield 25, 3) := by decide +kernel
theorem dX9_begin_46 : decode cX9_begin 46 = .ok (.iload_n 1, 1) := by decide +kernel
theorem dX9_begin_47 : decode cX9_begin 47 = .ok (.iconst 0, 1) := by decide +kernel
theorem dX9_begin_48 : decode cX9_begin 48 = .ok (.iastore, 1) := by decide +kernel
theorem dX9_begin_49 : decode cX9_begin 49 = .ok (.iinc 1 1, 3) := by decide +kernel
theorem dX9_begin_52 : decode cX9_begin 52 = .ok (.goto (-42), 3) := by decide +kernel
theorem dX9_begin_55 : decode cX9_begin 55 = .ok (.iconst 0, 1) := by decide +kernel
theorem dX9_begin_56 : decode cX9_begin 56 = .ok (.istore_n 1, 1) := by decide +kernel
theorem dX9_begin_57 : decode cX9_begin 57 = .ok (.iload_n 1, 1) := by decide +kernel
theorem dX9_begin_58 : decode cX9_begin 58 = .ok (.aload_n 0, 1) := by decide +kernel
theorem dX9_begin_59 : decode cX9_begin 59 = .ok (.getfield 103, 3) := by decide +kernel
theorem dX9_begin_62 : decode cX9_begin 62 = .ok (.if_icmp .ge 33, 3) := by decide +kernel
theorem dX9_begin_65 : decode cX9_begin 65 = .ok (.aload_n 0, 1) := by decide +kernel
theorem dX9_begin_66 : decode cX9_begin 66 = .ok (.getfield 19, 3) := by decide +kernel
theorem dX9_begin_69 : decode cX9_begin 69 = .ok (.iload_n 1, 1) := by decide +kernel
theorem dX9_begin_70 : decode cX9_begin 70 = .ok (.iaload, 1) := by decide +kernel
theorem dX9_begin_71 : decode cX9_begin 71 = .ok (.invokestatic 90, 3) := by decide +kernel
theorem dX9_begin_74 : decode cX9_begin 74 = .ok (.ifCond .eq 15, 3) := by decide +kernel
theorem dX9_begin_77 : decode cX9_begin 77 = .ok (.aload_n 0, 1) := by decide +kernel
theorem dX9_begin_78 : decode cX9_begin 78 = .ok (.getfield 25, 3) := by decide +kernel
theorem dX9_begin_81 : decode cX9_begin 81 = .ok (.aload_n 0, 1) := by decide +kernel
theorem dX9_begin_82 : decode cX9_begin 82 = .ok (.getfield 22, 3) := by decide +kernel
theorem dX9_begin_85 : decode cX9_begin 85 = .ok (.iload_n 1, 1) := by decide +kernel
theorem dX9_begin_86 : decode cX9_begin 86 = .ok (.iaload, 1) := by decide +kernel
theorem dX9_begin_87 : decode cX9_begin 87 = .ok (.iconst 1, 1) := by decide +kernel
theorem dX9_begin_88 : decode cX9_begin 88 = .ok (.iastore, 1) := by decide +kernel
theorem dX9_begin_89 : decode cX9_begin 89 = .ok (.iinc 1 1, 3) := by decide +kernel
theorem dX9_begin_92 : decode cX9_begin 92 = .ok (.goto (-35), 3) := by decide +kernel
theorem dX9_begin_95 : decode cX9_begin 95 = .ok (.aload_n 0, 1) := by decide +kernel
theorem dX9_begin_96 : decode cX9_begin 96 = .ok (.getfield 28, 3) := by decide +kernel
theorem dX9_begin_99 : decode cX9_begin 99 = .ok (.bipush 82, 2) := by decide +kernel
theorem dX9_begin_101 : decode cX9_begin 101 = .ok (.iconst 0, 1) := by decide +kernel
theorem dX9_begin_102 : decode cX9_begin 102 = .ok (.iastore, 1) := by decide +kernel
theorem dX9_begin_103 : decode cX9_begin 103 = .ok (.aload_n 0, 1) := by decide +kernel
theorem dX9_begin_104 : decode cX9_begin 104 = .ok (.iconst 0, 1) := by decide +kernel
theorem dX9_begin_105 : decode cX9_begin 105 = .ok (.putfield 106, 3) := by decide +kernel
theorem dX9_begin_108 : decode cX9_begin 108 = .ok (.aload_n 0, 1) := by decide +kernel
theorem dX9_begin_109 : decode cX9_begin 109 = .ok (.iconst 0, 1) := by decide +kernel
theorem dX9_begin_110 : decode cX9_begin 110 = .ok (.putfield 109, 3) := by decide +kernel
theorem dX9_begin_113 : decode cX9_begin 113 = .ok (.aload_n 0, 1) := by decide +kernel
theorem dX9_begin_114 : decode cX9_begin 114 = .ok (.invokevirtual 113, 3) := by decide +kernel
theorem dX9_begin_117 : decode cX9_begin 117 = .ok (.return_, 1) := by decide +kernel
theorem dX9_isCode_0 : decode cX9_isCode 0 = .ok (.iload_n 1, 1) := by decide +kernel
theorem dX9_isCode_1 : decode cX9_isCode 1 = .ok (.i2l, 1) := by decide +kernel
theorem dX9_isCode_2 : decode cX9_isCode 2 = .ok (.lconst 0, 1) := by decide +kernel
theorem dX9_isCode_3 : decode cX9_isCode 3 = .ok (.aload_n 0, 1) := by decide +kernel
theorem dX9_isCode_4 : decode cX9_isCode 4 = .ok (.getfield 103, 3) := by decide +kernel
theorem dX9_isCode_7 : decode cX9_isCode 7 = .ok (.iconst 1, 1) := by decide +kernel
theorem dX9_isCode_8 : decode cX9_isCode 8 = .ok (.isub, 1) := by decide +kernel
theorem dX9_isCode_9 : decode cX9_isCode 9 = .ok (.i2l, 1) := by decide +kernel
theorem dX9_isCode_10 : decode cX9_isCode 10 = .ok (.invokestatic 71, 3) := by decide +kernel
theorem dX9_isCode_13 : decode cX9_isCode 13 = .ok (.ireturn, 1) := by decide +kernel
theorem dX9_isEntry_0 : decode cX9_isEntry 0 = .ok (.iload_n 1, 1) := by decide +kernel
theorem dX9_isEntry_1 : decode cX9_isEntry 1 = .ok (.i2l, 1) := by decide +kernel
theorem dX9_isEntry_2 : decode cX9_isEntry 2 = .ok (.lconst 0, 1) := by decide +kernel
theorem dX9_isEntry_3 : decode cX9_isEntry 3 = .ok (.aload_n 0, 1) := by decide +kernel
theorem dX9_isEntry_4 : decode cX9_isEntry 4 = .ok (.getfield 28, 3) := by decide +kernel
theorem dX9_isEntry_7 : decode cX9_isEntry 7 = .ok (.bipush 82, 2) := by decide +kernel
theorem dX9_isEntry_9 : decode cX9_isEntry 9 = .ok (.iaload, 1) := by decide +kernel
theorem dX9_isEntry_10 : decode cX9_isEntry 10 = .ok (.iconst 1, 1) := by decide +kernel
theorem dX9_isEntry_11 : decode cX9_isEntry 11 = .ok (.isub, 1) := by decide +kernel
theorem dX9_isEntry_12 : decode cX9_isEntry 12 = .ok (.i2l, 1) := by decide +kernel
theorem dX9_isEntry_13 : decode cX9_isEntry 13 = .ok (.invokestatic 71, 3) := by decide +kernel
theorem dX9_isEntry_16 : decode cX9_isEntry 16 = .ok (.ireturn, 1) := by decide +kernel
theorem dX9_isSequence_0 : decode cX9_isSequence 0 = .ok (.iload_n 1, 1) := by decide +kernel
theorem dX9_isSequence_1 : decode cX9_isSequence 1 = .ok (.iload_n 2, 1) := by decide +kernel
theorem dX9_isSequence_2 : decode cX9_isSequence 2 = .ok (.iadd, 1) := by decide +kernel
theorem dX9_isSequence_3 : decode cX9_isSequence 3 = .ok (.aload_n 0, 1) := by decide +kernel
theorem dX9_isSequence_4 : decode cX9_isSequence 4 = .ok (.getfield 103, 3) := by decide +kernel
theorem dX9_isSequence_7 : decode cX9_isSequence 7 = .ok (.if_icmp .gt 28, 3) := by decide +kernel
theorem dX9_isSequence_10 : decode cX9_isSequence 10 = .ok (.iload_n 1, 1) := by decide +kernel
theorem dX9_isSequence_11 : decode cX9_isSequence 11 = .ok (.aload_n 0, 1) := by decide +kernel
theorem dX9_isSequence_12 : decode cX9_isSequence 12 = .ok (.getfield 28, 3) := by decide +kernel
theorem dX9_isSequence_15 : decode cX9_isSequence 15 = .ok (.bipush 80, 2) := by decide +kernel
theorem dX9_isSequence_17 : decode cX9_isSequence 17 = .ok (.iaload, 1) := by decide +kernel
theorem dX9_isSequence_18 : decode cX9_isSequence 18 = .ok (.idiv, 1) := by decide +kernel
theorem dX9_isSequence_19 : decode cX9_isSequence 19 = .ok (.iload_n 1, 1) := by decide +kernel
theorem dX9_isSequence_20 : decode cX9_isSequence 20 = .ok (.iload_n 2, 1) := by decide +kernel
theorem dX9_isSequence_21 : decode cX9_isSequence 21 = .ok (.iadd, 1) := by decide +kernel
theorem dX9_isSequence_22 : decode cX9_isSequence 22 = .ok (.iconst 1, 1) := by decide +kernel
theorem dX9_isSequence_23 : decode cX9_isSequence 23 = .ok (.isub, 1) := by decide +kernel
theorem dX9_isSequence_24 : decode cX9_isSequence 24 = .ok (.aload_n 0, 1) := by decide +kernel
theorem dX9_isSequence_25 : decode cX9_isSequence 25 = .ok (.getfield 28, 3) := by decide +kernel
theorem dX9_isSequence_28 : decode cX9_isSequence 28 = .ok (.bipush 80, 2) := by decide +kernel
theorem dX9_isSequence_30 : decode cX9_isSequence 30 = .ok (.iaload, 1) := by decide +kernel
theorem dX9_isSequence_31 : decode cX9_isSequence 31 = .ok (.idiv, 1) := by decide +kernel
theorem dX9_isSequence_32 : decode cX9_isSequence 32 = .ok (.if_icmp .eq 5, 3) := by decide +kernel
theorem dX9_isSequence_35 : decode cX9_isSequence 35 = .ok (.iconst 0, 1) := by decide +kernel
theorem dX9_isSequence_36 : decode cX9_isSequence 36 = .ok (.ireturn, 1) := by decide +kernel
theorem dX9_isSequence_37 : decode cX9_isSequence 37 = .ok (.iconst 1, 1) := by decide +kernel
theorem dX9_isSequence_38 : decode cX9_isSequence 38 = .ok (.istore_n 3, 1) := by decide +kernel
theorem dX9_isSequence_39 : decode cX9_isSequence 39 = .ok (.iload_n 1, 1) := by decide +kernel
theorem dX9_isSequence_40 : decode cX9_isSequence 40 = .ok (.istore 4, 2) := by decide +kernel
theorem dX9_isSequence_42 : decode cX9_isSequence 42 = .ok (.iload 4, 2) := by decide +kernel
theorem dX9_isSequence_44 : decode cX9_isSequence 44 = .ok (.iload_n 1, 1) := by decide +kernel
theorem dX9_isSequence_45 : decode cX9_isSequence 45 = .ok (.iload_n 2, 1) := by decide +kernel
theorem dX9_isSequence_46 : decode cX9_isSequence 46 = .ok (.iadd, 1) := by decide +kernel
theorem dX9_isSequence_47 : decode cX9_isSequence 47 = .ok (.if_icmp .ge 48, 3) := by decide +kernel
theorem dX9_isSequence_50 : decode cX9_isSequence 50 = .ok (.iload_n 3, 1) := by decide +kernel
theorem dX9_isSequence_51 : decode cX9_isSequence 51 = .ok (.ifCond .eq 36, 3) := by decide +kernel
theorem dX9_isSequence_54 : decode cX9_isSequence 54 = .ok (.aload_n 0, 1) := by decide +kernel
theorem dX9_isSequence_55 : decode cX9_isSequence 55 = .ok (.getfield 19, 3) := by decide +kernel
theorem dX9_isSequence_58 : decode cX9_isSequence 58 = .ok (.iload 4, 2) := by decide +kernel
theorem dX9_isSequence_60 : decode cX9_isSequence 60 = .ok (.iaload, 1) := by decide +kernel
theorem dX9_isSequence_61 : decode cX9_isSequence 61 = .ok (.invokestatic 86, 3) := by decide +kernel
theorem dX9_isSequence_64 : decode cX9_isSequence 64 = .ok (.ifCond .eq 23, 3) := by decide +kernel
theorem dX9_isSequence_67 : decode cX9_isSequence 67 = .ok (.iload 4, 2) := by decide +kernel
theorem dX9_isSequence_69 : decode cX9_isSequence 69 = .ok (.iload_n 1, 1) := by decide +kernel
theorem dX9_isSequence_70 : decode cX9_isSequence 70 = .ok (.if_icmp .eq 13, 3) := by decide +kernel
theorem dX9_isSequence_73 : decode cX9_isSequence 73 = .ok (.aload_n 0, 1) := by decide +kernel
theorem dX9_isSequence_74 : decode cX9_isSequence 74 = .ok (.getfield 25, 3) := by decide +kernel
theorem dX9_isSequence_77 : decode cX9_isSequence 77 = .ok (.iload 4, 2) := by decide +kernel
theorem dX9_isSequence_79 : decode cX9_isSequence 79 = .ok (.iaload, 1) := by decide +kernel
theorem dX9_isSequence_80 : decode cX9_isSequence 80 = .ok (.ifCond .ne 7, 3) := by decide +kernel
theorem dX9_isSequence_83 : decode cX9_isSequence 83 = .ok (.iconst 1, 1) := by decide +kernel
theorem dX9_isSequence_84 : decode cX9_isSequence 84 = .ok (.goto 4, 3) := by decide +kernel
theorem dX9_isSequence_87 : decode cX9_isSequence 87 = .ok (.iconst 0, 1) := by decide +kernel
theorem dX9_isSequence_88 : decode cX9_isSequence 88 = .ok (.istore_n 3, 1) := by decide +kernel
theorem dX9_isSequence_89 : decode cX9_isSequence 89 = .ok (.iinc 4 1, 3) := by decide +kernel
theorem dX9_isSequence_92 : decode cX9_isSequence 92 = .ok (.goto (-50), 3) := by decide +kernel
theorem dX9_isSequence_95 : decode cX9_isSequence 95 = .ok (.iload_n 3, 1) := by decide +kernel
theorem dX9_isSequence_96 : decode cX9_isSequence 96 = .ok (.ireturn, 1) := by decide +kernel
theorem dX9_entryAt_0 : decode cX9_entryAt 0 = .ok (.iload_n 1, 1) := by decide +kernel
theorem dX9_entryAt_1 : decode cX9_entryAt 1 = .ok (.bipush 8, 2) := by decide +kernel
theorem dX9_entryAt_3 : decode cX9_entryAt 3 = .ok (.if_icmp .ge 10, 3) := by decide +kernel
theorem dX9_entryAt_6 : decode cX9_entryAt 6 = .ok (.bipush 10, 2) := by decide +kernel
theorem dX9_entryAt_8 : decode cX9_entryAt 8 = .ok (.iload_n 1, 1) := by decide +kernel
theorem dX9_entryAt_9 : decode cX9_entryAt 9 = .ok (.imul, 1) := by decide +kernel
theorem dX9_entryAt_10 : decode cX9_entryAt 10 = .ok (.goto 5, 3) := by decide +kernel
theorem dX9_entryAt_13 : decode cX9_entryAt 13 = .ok (.bipush 83, 2) := by decide +kernel
theorem dX9_entryAt_15 : decode cX9_entryAt 15 = .ok (.ireturn, 1) := by decide +kernel
theorem dX9_matches_0 : decode cX9_matches 0 = .ok (.aload_n 0, 1) := by decide +kernel
theorem dX9_matches_1 : decode cX9_matches 1 = .ok (.iload_n 2, 1) := by decide +kernel
theorem dX9_matches_2 : decode cX9_matches 2 = .ok (.invokevirtual 116, 3) := by decide +kernel
theorem dX9_matches_5 : decode cX9_matches 5 = .ok (.istore_n 3, 1) := by decide +kernel
theorem dX9_matches_6 : decode cX9_matches 6 = .ok (.aload_n 0, 1) := by decide +kernel
theorem dX9_matches_7 : decode cX9_matches 7 = .ok (.getfield 28, 3) := by decide +kernel
theorem dX9_matches_10 : decode cX9_matches 10 = .ok (.iload_n 3, 1) := by decide +kernel
theorem dX9_matches_11 : decode cX9_matches 11 = .ok (.iaload, 1) := by decide +kernel
theorem dX9_matches_12 : decode cX9_matches 12 = .ok (.istore 4, 2) := by decide +kernel
theorem dX9_matches_14 : decode cX9_matches 14 = .ok (.aload_n 0, 1) := by decide +kernel
theorem dX9_matches_15 : decode cX9_matches 15 = .ok (.iload_n 1, 1) := by decide +kernel
theorem dX9_matches_16 : decode cX9_matches 16 = .ok (.iload 4, 2) := by decide +kernel
theorem dX9_matches_18 : decode cX9_matches 18 = .ok (.invokevirtual 119, 3) := by decide +kernel
theorem dX9_matches_21 : decode cX9_matches 21 = .ok (.istore 5, 2) := by decide +kernel
theorem dX9_matches_23 : decode cX9_matches 23 = .ok (.iconst 0, 1) := by decide +kernel
theorem dX9_matches_24 : decode cX9_matches 24 = .ok (.istore 6, 2) := by decide +kernel
theorem dX9_matches_26 : decode cX9_matches 26 = .ok (.iload 6, 2) := by decide +kernel
theorem dX9_matches_28 : decode cX9_matches 28 = .ok (.iload 4, 2) := by decide +kernel
theorem dX9_matches_30 : decode cX9_matches 30 = .ok (.if_icmp .ge 81, 3) := by decide +kernel
theorem dX9_matches_33 : decode cX9_matches 33 = .ok (.iload 5, 2) := by decide +kernel
theorem dX9_matches_35 : decode cX9_matches 35 = .ok (.ifCond .eq 76, 3) := by decide +kernel
theorem dX9_matches_38 : decode cX9_matches 38 = .ok (.aload_n 0, 1) := by decide +kernel
theorem dX9_matches_39 : decode cX9_matches 39 = .ok (.getfield 19, 3) := by decide +kernel
theorem dX9_matches_42 : decode cX9_matches 42 = .ok (.iload_n 1, 1) := by decide +kernel
theorem dX9_matches_43 : decode cX9_matches 43 = .ok (.iload 6, 2) := by decide +kernel
theorem dX9_matches_45 : decode cX9_matches 45 = .ok (.iadd, 1) := by decide +kernel
theorem dX9_matches_46 : decode cX9_matches 46 = .ok (.iaload, 1) := by decide +kernel
theorem dX9_matches_47 : decode cX9_matches 47 = .ok (.aload_n 0, 1) := by decide +kernel
theorem dX9_matches_48 : decode cX9_matches 48 = .ok (.getfield 28, 3) := by decide +kernel
theorem dX9_matches_51 : decode cX9_matches 51 = .ok (.iload_n 3, 1) := by decide +kernel
theorem dX9_matches_52 : decode cX9_matches 52 = .ok (.iconst 2, 1) := by decide +kernel
theorem dX9_matches_53 : decode cX9_matches 53 = .ok (.iadd, 1) := by decide +kernel
theorem dX9_matches_54 : decode cX9_matches 54 = .ok (.iload 6, 2) := by decide +kernel
theorem dX9_matches_56 : decode cX9_matches 56 = .ok (.iadd, 1) := by decide +kernel
theorem dX9_matches_57 : decode cX9_matches 57 = .ok (.iaload, 1) := by decide +kernel
theorem dX9_matches_58 : decode cX9_matches 58 = .ok (.if_icmp .ne 44, 3) := by decide +kernel
theorem dX9_matches_61 : decode cX9_matches 61 = .ok (.iload 6, 2) := by decide +kernel
theorem dX9_matches_63 : decode cX9_matches 63 = .ok (.aload_n 0, 1) := by decide +kernel
theorem dX9_matches_64 : decode cX9_matches 64 = .ok (.getfield 28, 3) := by decide +kernel
theorem dX9_matches_67 : decode cX9_matches 67 = .ok (.iload_n 3, 1) := by decide +kernel
theorem dX9_matches_68 : decode cX9_matches 68 = .ok (.iconst 1, 1) := by decide +kernel
theorem dX9_matches_69 : decode cX9_matches 69 = .ok (.iadd, 1) := by decide +kernel
theorem dX9_matches_70 : decode cX9_matches 70 = .ok (.iaload, 1) := by decide +kernel
theorem dX9_matches_71 : decode cX9_matches 71 = .ok (.if_icmp .eq 27, 3) := by decide +kernel
theorem dX9_matches_74 : decode cX9_matches 74 = .ok (.aload_n 0, 1) := by decide +kernel
theorem dX9_matches_75 : decode cX9_matches 75 = .ok (.getfield 22, 3) := by decide +kernel
theorem dX9_matches_78 : decode cX9_matches 78 = .ok (.iload_n 1, 1) := by decide +kernel
theorem dX9_matches_79 : decode cX9_matches 79 = .ok (.iload 6, 2) := by decide +kernel
theorem dX9_matches_81 : decode cX9_matches 81 = .ok (.iadd, 1) := by decide +kernel
theorem dX9_matches_82 : decode cX9_matches 82 = .ok (.iaload, 1) := by decide +kernel
theorem dX9_matches_83 : decode cX9_matches 83 = .ok (.aload_n 0, 1) := by decide +kernel
theorem dX9_matches_84 : decode cX9_matches 84 = .ok (.getfield 28, 3) := by decide +kernel
theorem dX9_matches_87 : decode cX9_matches 87 = .ok (.iload_n 3, 1) := by decide +kernel
theorem dX9_matches_88 : decode cX9_matches 88 = .ok (.bipush 6, 2) := by decide +kernel
theorem dX9_matches_90 : decode cX9_matches 90 = .ok (.iadd, 1) := by decide +kernel
theorem dX9_matches_91 : decode cX9_matches 91 = .ok (.iload 6, 2) := by decide +kernel
theorem dX9_matches_93 : decode cX9_matches 93 = .ok (.iadd, 1) := by decide +kernel
theorem dX9_matches_94 : decode cX9_matches 94 = .ok (.iaload, 1) := by decide +kernel
theorem dX9_matches_95 : decode cX9_matches 95 = .ok (.if_icmp .ne 7, 3) := by decide +kernel
theorem dX9_matches_98 : decode cX9_matches 98 = .ok (.iconst 1, 1) := by decide +kernel
theorem dX9_matches_99 : decode cX9_matches 99 = .ok (.goto 4, 3) := by decide +kernel
theorem dX9_matches_102 : decode cX9_matches 102 = .ok (.iconst 0, 1) := by decide +kernel
theorem dX9_matches_103 : decode cX9_matches 103 = .ok (.istore 5, 2) := by decide +kernel
theorem dX9_matches_105 : decode cX9_matches 105 = .ok (.iinc 6 1, 3) := by decide +kernel
theorem dX9_matches_108 : decode cX9_matches 108 = .ok (.goto (-82), 3) := by decide +kernel
theorem dX9_matches_111 : decode cX9_matches 111 = .ok (.iload 5, 2) := by decide +kernel
theorem dX9_matches_113 : decode cX9_matches 113 = .ok (.ireturn, 1) := by decide +kernel
theorem dX9_lays_0 : decode cX9_lays 0 = .ok (.aload_n 0, 1) := by decide +kernel
theorem dX9_lays_1 : decode cX9_lays 1 = .ok (.iload_n 1, 1) := by decide +kernel
theorem dX9_lays_2 : decode cX9_lays 2 = .ok (.invokevirtual 116, 3) := by decide +kernel
theorem dX9_lays_5 : decode cX9_lays 5 = .ok (.istore 5, 2) := by decide +kernel
theorem dX9_lays_7 : decode cX9_lays 7 = .ok (.aload_n 0, 1) := by decide +kernel
theorem dX9_lays_8 : decode cX9_lays 8 = .ok (.getfield 28, 3) := by decide +kernel
theorem dX9_lays_11 : decode cX9_lays 11 = .ok (.iload 5, 2) := by decide +kernel
theorem dX9_lays_13 : decode cX9_lays 13 = .ok (.iload_n 3, 1) := by decide +kernel
theorem dX9_lays_14 : decode cX9_lays 14 = .ok (.iastore, 1) := by decide +kernel
theorem dX9_lays_15 : decode cX9_lays 15 = .ok (.aload_n 0, 1) := by decide +kernel
theorem dX9_lays_16 : decode cX9_lays 16 = .ok (.getfield 28, 3) := by decide +kernel
theorem dX9_lays_19 : decode cX9_lays 19 = .ok (.iload 5, 2) := by decide +kernel
theorem dX9_lays_21 : decode cX9_lays 21 = .ok (.iconst 1, 1) := by decide +kernel
theorem dX9_lays_22 : decode cX9_lays 22 = .ok (.iadd, 1) := by decide +kernel
theorem dX9_lays_23 : decode cX9_lays 23 = .ok (.iload 4, 2) := by decide +kernel
theorem dX9_lays_25 : decode cX9_lays 25 = .ok (.ifCond .ge 8, 3) := by decide +kernel
theorem dX9_lays_28 : decode cX9_lays 28 = .ok (.bipush (-4), 2) := by decide +kernel
theorem dX9_lays_30 : decode cX9_lays 30 = .ok (.goto 5, 3) := by decide +kernel
theorem dX9_lays_33 : decode cX9_lays 33 = .ok (.iload 4, 2) := by decide +kernel
theorem dX9_lays_35 : decode cX9_lays 35 = .ok (.iastore, 1) := by decide +kernel
theorem dX9_lays_36 : decode cX9_lays 36 = .ok (.iconst 0, 1) := by decide +kernel
theorem dX9_lays_37 : decode cX9_lays 37 = .ok (.istore 6, 2) := by decide +kernel
theorem dX9_lays_39 : decode cX9_lays 39 = .ok (.iload 6, 2) := by decide +kernel
theorem dX9_lays_41 : decode cX9_lays 41 = .ok (.iconst 4, 1) := by decide +kernel
theorem dX9_lays_42 : decode cX9_lays 42 = .ok (.if_icmp .ge 80, 3) := by decide +kernel
theorem dX9_lays_45 : decode cX9_lays 45 = .ok (.aload_n 0, 1) := by decide +kernel
theorem dX9_lays_46 : decode cX9_lays 46 = .ok (.getfield 28, 3) := by decide +kernel
theorem dX9_lays_49 : decode cX9_lays 49 = .ok (.iload 5, 2) := by decide +kernel
theorem dX9_lays_51 : decode cX9_lays 51 = .ok (.iconst 2, 1) := by decide +kernel
theorem dX9_lays_52 : decode cX9_lays 52 = .ok (.iadd, 1) := by decide +kernel
theorem dX9_lays_53 : decode cX9_lays 53 = .ok (.iload 6, 2) := by decide +kernel
theorem dX9_lays_55 : decode cX9_lays 55 = .ok (.iadd, 1) := by decide +kernel
theorem dX9_lays_56 : decode cX9_lays 56 = .ok (.iload 6, 2) := by decide +kernel
theorem dX9_lays_58 : decode cX9_lays 58 = .ok (.iload_n 3, 1) := by decide +kernel
theorem dX9_lays_59 : decode cX9_lays 59 = .ok (.if_icmp .ge 15, 3) := by decide +kernel
theorem dX9_lays_62 : decode cX9_lays 62 = .ok (.aload_n 0, 1) := by decide +kernel
theorem dX9_lays_63 : decode cX9_lays 63 = .ok (.getfield 19, 3) := by decide +kernel
theorem dX9_lays_66 : decode cX9_lays 66 = .ok (.iload_n 2, 1) := by decide +kernel
theorem dX9_lays_67 : decode cX9_lays 67 = .ok (.iload 6, 2) := by decide +kernel
theorem dX9_lays_69 : decode cX9_lays 69 = .ok (.iadd, 1) := by decide +kernel
theorem dX9_lays_70 : decode cX9_lays 70 = .ok (.iaload, 1) := by decide +kernel
theorem dX9_lays_71 : decode cX9_lays 71 = .ok (.goto 4, 3) := by decide +kernel
theorem dX9_lays_74 : decode cX9_lays 74 = .ok (.iconst 0, 1) := by decide +kernel
theorem dX9_lays_75 : decode cX9_lays 75 = .ok (.iastore, 1) := by decide +kernel
theorem dX9_lays_76 : decode cX9_lays 76 = .ok (.aload_n 0, 1) := by decide +kernel
theorem dX9_lays_77 : decode cX9_lays 77 = .ok (.getfield 28, 3) := by decide +kernel
theorem dX9_lays_80 : decode cX9_lays 80 = .ok (.iload 5, 2) := by decide +kernel
theorem dX9_lays_82 : decode cX9_lays 82 = .ok (.bipush 6, 2) := by decide +kernel
theorem dX9_lays_84 : decode cX9_lays 84 = .ok (.iadd, 1) := by decide +kernel
theorem dX9_lays_85 : decode cX9_lays 85 = .ok (.iload 6, 2) := by decide +kernel
theorem dX9_lays_87 : decode cX9_lays 87 = .ok (.iadd, 1) := by decide +kernel
theorem dX9_lays_88 : decode cX9_lays 88 = .ok (.iload 6, 2) := by decide +kernel
theorem dX9_lays_90 : decode cX9_lays 90 = .ok (.iload_n 3, 1) := by decide +kernel
theorem dX9_lays_91 : decode cX9_lays 91 = .ok (.if_icmp .ge 22, 3) := by decide +kernel
theorem dX9_lays_94 : decode cX9_lays 94 = .ok (.iload 6, 2) := by decide +kernel
theorem dX9_lays_96 : decode cX9_lays 96 = .ok (.iload 4, 2) := by decide +kernel
theorem dX9_lays_98 : decode cX9_lays 98 = .ok (.if_icmp .eq 15, 3) := by decide +kernel
theorem dX9_lays_101 : decode cX9_lays 101 = .ok (.aload_n 0, 1) := by decide +kernel
theorem dX9_lays_102 : decode cX9_lays 102 = .ok (.getfield 22, 3) := by decide +kernel
theorem dX9_lays_105 : decode cX9_lays 105 = .ok (.iload_n 2, 1) := by decide +kernel
theorem dX9_lays_106 : decode cX9_lays 106 = .ok (.iload 6, 2) := by decide +kernel
theorem dX9_lays_108 : decode cX9_lays 108 = .ok (.iadd, 1) := by decide +kernel
theorem dX9_lays_109 : decode cX9_lays 109 = .ok (.iaload, 1) := by decide +kernel
theorem dX9_lays_110 : decode cX9_lays 110 = .ok (.goto 5, 3) := by decide +kernel
theorem dX9_lays_113 : decode cX9_lays 113 = .ok (.bipush (-4), 2) := by decide +kernel
theorem dX9_lays_115 : decode cX9_lays 115 = .ok (.iastore, 1) := by decide +kernel
theorem dX9_lays_116 : decode cX9_lays 116 = .ok (.iinc 6 1, 3) := by decide +kernel
theorem dX9_lays_119 : decode cX9_lays 119 = .ok (.goto (-80), 3) := by decide +kernel
theorem dX9_lays_122 : decode cX9_lays 122 = .ok (.return_, 1) := by decide +kernel
theorem dX9_hasLike_0 : decode cX9_hasLike 0 = .ok (.aload_n 0, 1) := by decide +kernel
theorem dX9_hasLike_1 : decode cX9_hasLike 1 = .ok (.bipush 8, 2) := by decide +kernel
theorem dX9_hasLike_3 : decode cX9_hasLike 3 = .ok (.iload_n 1, 1) := by decide +kernel
theorem dX9_hasLike_4 : decode cX9_hasLike 4 = .ok (.iload_n 2, 1) := by decide +kernel
theorem dX9_hasLike_5 : decode cX9_hasLike 5 = .ok (.iload_n 3, 1) := by decide +kernel
theorem dX9_hasLike_6 : decode cX9_hasLike 6 = .ok (.invokevirtual 123, 3) := by decide +kernel
theorem dX9_hasLike_9 : decode cX9_hasLike 9 = .ok (.iconst 0, 1) := by decide +kernel
theorem dX9_hasLike_10 : decode cX9_hasLike 10 = .ok (.istore 4, 2) := by decide +kernel
theorem dX9_hasLike_12 : decode cX9_hasLike 12 = .ok (.iconst 0, 1) := by decide +kernel
theorem dX9_hasLike_13 : decode cX9_hasLike 13 = .ok (.istore 5, 2) := by decide +kernel
theorem dX9_hasLike_15 : decode cX9_hasLike 15 = .ok (.iload 5, 2) := by decide +kernel
theorem dX9_hasLike_17 : decode cX9_hasLike 17 = .ok (.aload_n 0, 1) := by decide +kernel
theorem dX9_hasLike_18 : decode cX9_hasLike 18 = .ok (.getfield 28, 3) := by decide +kernel
theorem dX9_hasLike_21 : decode cX9_hasLike 21 = .ok (.bipush 82, 2) := by decide +kernel
theorem dX9_hasLike_23 : decode cX9_hasLike 23 = .ok (.iaload, 1) := by decide +kernel
theorem dX9_hasLike_24 : decode cX9_hasLike 24 = .ok (.if_icmp .ge 83, 3) := by decide +kernel
theorem dX9_hasLike_27 : decode cX9_hasLike 27 = .ok (.iconst 1, 1) := by decide +kernel
theorem dX9_hasLike_28 : decode cX9_hasLike 28 = .ok (.istore 6, 2) := by decide +kernel
theorem dX9_hasLike_30 : decode cX9_hasLike 30 = .ok (.iconst 0, 1) := by decide +kernel
theorem dX9_hasLike_31 : decode cX9_hasLike 31 = .ok (.istore 7, 2) := by decide +kernel
theorem dX9_hasLike_33 : decode cX9_hasLike 33 = .ok (.iload 7, 2) := by decide +kernel
theorem dX9_hasLike_35 : decode cX9_hasLike 35 = .ok (.bipush 10, 2) := by decide +kernel
theorem dX9_hasLike_37 : decode cX9_hasLike 37 = .ok (.if_icmp .ge 47, 3) := by decide +kernel
theorem dX9_hasLike_40 : decode cX9_hasLike 40 = .ok (.iload 6, 2) := by decide +kernel
theorem dX9_hasLike_42 : decode cX9_hasLike 42 = .ok (.ifCond .eq 33, 3) := by decide +kernel
theorem dX9_hasLike_45 : decode cX9_hasLike 45 = .ok (.aload_n 0, 1) := by decide +kernel
theorem dX9_hasLike_46 : decode cX9_hasLike 46 = .ok (.getfield 28, 3) := by decide +kernel
theorem dX9_hasLike_49 : decode cX9_hasLike 49 = .ok (.bipush 10, 2) := by decide +kernel
theorem dX9_hasLike_51 : decode cX9_hasLike 51 = .ok (.iload 5, 2) := by decide +kernel
theorem dX9_hasLike_53 : decode cX9_hasLike 53 = .ok (.imul, 1) := by decide +kernel
theorem dX9_hasLike_54 : decode cX9_hasLike 54 = .ok (.iload 7, 2) := by decide +kernel
theorem dX9_hasLike_56 : decode cX9_hasLike 56 = .ok (.iadd, 1) := by decide +kernel
theorem dX9_hasLike_57 : decode cX9_hasLike 57 = .ok (.iaload, 1) := by decide +kernel
theorem dX9_hasLike_58 : decode cX9_hasLike 58 = .ok (.aload_n 0, 1) := by decide +kernel
theorem dX9_hasLike_59 : decode cX9_hasLike 59 = .ok (.getfield 28, 3) := by decide +kernel
theorem dX9_hasLike_62 : decode cX9_hasLike 62 = .ok (.bipush 83, 2) := by decide +kernel
theorem dX9_hasLike_64 : decode cX9_hasLike 64 = .ok (.iload 7, 2) := by decide +kernel
theorem dX9_hasLike_66 : decode cX9_hasLike 66 = .ok (.iadd, 1) := by decide +kernel
theorem dX9_hasLike_67 : decode cX9_hasLike 67 = .ok (.iaload, 1) := by decide +kernel
theorem dX9_hasLike_68 : decode cX9_hasLike 68 = .ok (.if_icmp .ne 7, 3) := by decide +kernel
theorem dX9_hasLike_71 : decode cX9_hasLike 71 = .ok (.iconst 1, 1) := by decide +kernel
theorem dX9_hasLike_72 : decode cX9_hasLike 72 = .ok (.goto 4, 3) := by decide +kernel
theorem dX9_hasLike_75 : decode cX9_hasLike 75 = .ok (.iconst 0, 1) := by decide +kernel
theorem dX9_hasLike_76 : decode cX9_hasLike 76 = .ok (.istore 6, 2) := by decide +kernel
theorem dX9_hasLike_78 : decode cX9_hasLike 78 = .ok (.iinc 7 1, 3) := by decide +kernel
theorem dX9_hasLike_81 : decode cX9_hasLike 81 = .ok (.goto (-48), 3) := by decide +kernel
theorem dX9_hasLike_84 : decode cX9_hasLike 84 = .ok (.iload 4, 2) := by decide +kernel
theorem dX9_hasLike_86 : decode cX9_hasLike 86 = .ok (.ifCond .ne 8, 3) := by decide +kernel
theorem dX9_hasLike_89 : decode cX9_hasLike 89 = .ok (.iload 6, 2) := by decide +kernel
theorem dX9_hasLike_91 : decode cX9_hasLike 91 = .ok (.ifCond .eq 7, 3) := by decide +kernel
theorem dX9_hasLike_94 : decode cX9_hasLike 94 = .ok (.iconst 1, 1) := by decide +kernel
theorem dX9_hasLike_95 : decode cX9_hasLike 95 = .ok (.goto 4, 3) := by decide +kernel
theorem dX9_hasLike_98 : decode cX9_hasLike 98 = .ok (.iconst 0, 1) := by decide +kernel
theorem dX9_hasLike_99 : decode cX9_hasLike 99 = .ok (.istore 4, 2) := by decide +kernel
theorem dX9_hasLike_101 : decode cX9_hasLike 101 = .ok (.iinc 5 1, 3) := by decide +kernel
theorem dX9_hasLike_104 : decode cX9_hasLike 104 = .ok (.goto (-89), 3) := by decide +kernel
theorem dX9_hasLike_107 : decode cX9_hasLike 107 = .ok (.iload 4, 2) := by decide +kernel
theorem dX9_hasLike_109 : decode cX9_hasLike 109 = .ok (.ireturn, 1) := by decide +kernel
theorem dX9_refers_0 : decode cX9_refers 0 = .ok (.aload_n 0, 1) := by decide +kernel
theorem dX9_refers_1 : decode cX9_refers 1 = .ok (.getfield 28, 3) := by decide +kernel
theorem dX9_refers_4 : decode cX9_refers 4 = .ok (.aload_n 0, 1) := by decide +kernel
theorem dX9_refers_5 : decode cX9_refers 5 = .ok (.iload_n 1, 1) := by decide +kernel
theorem dX9_refers_6 : decode cX9_refers 6 = .ok (.invokevirtual 116, 3) := by decide +kernel
theorem dX9_refers_9 : decode cX9_refers 9 = .ok (.iconst 1, 1) := by decide +kernel
theorem dX9_refers_10 : decode cX9_refers 10 = .ok (.iadd, 1) := by decide +kernel
theorem dX9_refers_11 : decode cX9_refers 11 = .ok (.iaload, 1) := by decide +kernel
theorem dX9_refers_12 : decode cX9_refers 12 = .ok (.bipush (-4), 2) := by decide +kernel
theorem dX9_refers_14 : decode cX9_refers 14 = .ok (.if_icmp .ne 7, 3) := by decide +kernel
theorem dX9_refers_17 : decode cX9_refers 17 = .ok (.iconst 2, 1) := by decide +kernel
theorem dX9_refers_18 : decode cX9_refers 18 = .ok (.goto 4, 3) := by decide +kernel
theorem dX9_refers_21 : decode cX9_refers 21 = .ok (.iconst 3, 1) := by decide +kernel
theorem dX9_refers_22 : decode cX9_refers 22 = .ok (.ireturn, 1) := by decide +kernel
theorem dX9_own_0 : decode cX9_own 0 = .ok (.iload_n 0, 1) := by decide +kernel
theorem dX9_own_1 : decode cX9_own 1 = .ok (.invokestatic 86, 3) := by decide +kernel
theorem dX9_own_4 : decode cX9_own 4 = .ok (.ifCond .eq 7, 3) := by decide +kernel
theorem dX9_own_7 : decode cX9_own 7 = .ok (.iconst 2, 1) := by decide +kernel
theorem dX9_own_8 : decode cX9_own 8 = .ok (.goto 15, 3) := by decide +kernel
theorem dX9_own_11 : decode cX9_own 11 = .ok (.iload_n 0, 1) := by decide +kernel
theorem dX9_own_12 : decode cX9_own 12 = .ok (.invokestatic 90, 3) := by decide +kernel
theorem dX9_own_15 : decode cX9_own 15 = .ok (.ifCond .eq 7, 3) := by decide +kernel
theorem dX9_own_18 : decode cX9_own 18 = .ok (.iconst 4, 1) := by decide +kernel
theorem dX9_own_19 : decode cX9_own 19 = .ok (.goto 4, 3) := by decide +kernel
theorem dX9_own_22 : decode cX9_own 22 = .ok (.iconst 1, 1) := by decide +kernel
theorem dX9_own_23 : decode cX9_own 23 = .ok (.ireturn, 1) := by decide +kernel
theorem dX9_coverWith_0 : decode cX9_coverWith 0 = .ok (.aload_n 0, 1) := by decide +kernel
theorem dX9_coverWith_1 : decode cX9_coverWith 1 = .ok (.getfield 34, 3) := by decide +kernel
theorem dX9_coverWith_4 : decode cX9_coverWith 4 = .ok (.aload_n 0, 1) := by decide +kernel
theorem dX9_coverWith_5 : decode cX9_coverWith 5 = .ok (.getfield 103, 3) := by decide +kernel
theorem dX9_coverWith_8 : decode cX9_coverWith 8 = .ok (.iconst 0, 1) := by decide +kernel
theorem dX9_coverWith_9 : decode cX9_coverWith 9 = .ok (.iastore, 1) := by decide +kernel
theorem dX9_coverWith_10 : decode cX9_coverWith 10 = .ok (.aload_n 0, 1) := by decide +kernel
theorem dX9_coverWith_11 : decode cX9_coverWith 11 = .ok (.getfield 103, 3) := by decide +kernel
theorem dX9_coverWith_14 : decode cX9_coverWith 14 = .ok (.iconst 1, 1) := by decide +kernel
theorem dX9_coverWith_15 : decode cX9_coverWith 15 = .ok (.isub, 1) := by decide +kernel
theorem dX9_coverWith_16 : decode cX9_coverWith 16 = .ok (.istore_n 2, 1) := by decide +kernel
theorem dX9_coverWith_17 : decode cX9_coverWith 17 = .ok (.iload_n 2, 1) := by decide +kernel
theorem dX9_coverWith_18 : decode cX9_coverWith 18 = .ok (.ifCond .lt 183, 3) := by decide +kernel
theorem dX9_coverWith_21 : decode cX9_coverWith 21 = .ok (.aload_n 0, 1) := by decide +kernel
theorem dX9_coverWith_22 : decode cX9_coverWith 22 = .ok (.getfield 34, 3) := by decide +kernel
theorem dX9_coverWith_25 : decode cX9_coverWith 25 = .ok (.iload_n 2, 1) := by decide +kernel
theorem dX9_coverWith_26 : decode cX9_coverWith 26 = .ok (.aload_n 0, 1) := by decide +kernel
theorem dX9_coverWith_27 : decode cX9_coverWith 27 = .ok (.getfield 19, 3) := by decide +kernel
theorem dX9_coverWith_30 : decode cX9_coverWith 30 = .ok (.iload_n 2, 1) := by decide +kernel
theorem dX9_coverWith_31 : decode cX9_coverWith 31 = .ok (.iaload, 1) := by decide +kernel
theorem dX9_coverWith_32 : decode cX9_coverWith 32 = .ok (.invokestatic 127, 3) := by decide +kernel
theorem dX9_coverWith_35 : decode cX9_coverWith 35 = .ok (.aload_n 0, 1) := by decide +kernel
theorem dX9_coverWith_36 : decode cX9_coverWith 36 = .ok (.getfield 34, 3) := by decide +kernel
theorem dX9_coverWith_39 : decode cX9_coverWith 39 = .ok (.iload_n 2, 1) := by decide +kernel
theorem dX9_coverWith_40 : decode cX9_coverWith 40 = .ok (.iconst 1, 1) := by decide +kernel
theorem dX9_coverWith_41 : decode cX9_coverWith 41 = .ok (.iadd, 1) := by decide +kernel
theorem dX9_coverWith_42 : decode cX9_coverWith 42 = .ok (.iaload, 1) := by decide +kernel
theorem dX9_coverWith_43 : decode cX9_coverWith 43 = .ok (.iadd, 1) := by decide +kernel
theorem dX9_coverWith_44 : decode cX9_coverWith 44 = .ok (.iastore, 1) := by decide +kernel
theorem dX9_coverWith_45 : decode cX9_coverWith 45 = .ok (.aload_n 0, 1) := by decide +kernel
theorem dX9_coverWith_46 : decode cX9_coverWith 46 = .ok (.getfield 37, 3) := by decide +kernel
theorem dX9_coverWith_49 : decode cX9_coverWith 49 = .ok (.iload_n 2, 1) := by decide +kernel
theorem dX9_coverWith_50 : decode cX9_coverWith 50 = .ok (.bipush (-4), 2) := by decide +kernel
theorem dX9_coverWith_52 : decode cX9_coverWith 52 = .ok (.iastore, 1) := by decide +kernel
theorem dX9_coverWith_53 : decode cX9_coverWith 53 = .ok (.iconst 0, 1) := by decide +kernel
theorem dX9_coverWith_54 : decode cX9_coverWith 54 = .ok (.istore_n 3, 1) := by decide +kernel
theorem dX9_coverWith_55 : decode cX9_coverWith 55 = .ok (.iload_n 3, 1) := by decide +kernel
theorem dX9_coverWith_56 : decode cX9_coverWith 56 = .ok (.aload_n 0, 1) := by decide +kernel
theorem dX9_coverWith_57 : decode cX9_coverWith 57 = .ok (.getfield 28, 3) := by decide +kernel
theorem dX9_coverWith_60 : decode cX9_coverWith 60 = .ok (.bipush 82, 2) := by decide +kernel
theorem dX9_coverWith_62 : decode cX9_coverWith 62 = .ok (.iaload, 1) := by decide +kernel
theorem dX9_coverWith_63 : decode cX9_coverWith 63 = .ok (.if_icmp .gt 132, 3) := by decide +kernel
theorem dX9_coverWith_66 : decode cX9_coverWith 66 = .ok (.iload_n 3, 1) := by decide +kernel
theorem dX9_coverWith_67 : decode cX9_coverWith 67 = .ok (.aload_n 0, 1) := by decide +kernel
theorem dX9_coverWith_68 : decode cX9_coverWith 68 = .ok (.getfield 28, 3) := by decide +kernel
theorem dX9_coverWith_71 : decode cX9_coverWith 71 = .ok (.bipush 82, 2) := by decide +kernel
theorem dX9_coverWith_73 : decode cX9_coverWith 73 = .ok (.iaload, 1) := by decide +kernel
theorem dX9_coverWith_74 : decode cX9_coverWith 74 = .ok (.if_icmp .ge 7, 3) := by decide +kernel
theorem dX9_coverWith_77 : decode cX9_coverWith 77 = .ok (.iload_n 3, 1) := by decide +kernel
theorem dX9_coverWith_78 : decode cX9_coverWith 78 = .ok (.goto 5, 3) := by decide +kernel
theorem dX9_coverWith_81 : decode cX9_coverWith 81 = .ok (.bipush 8, 2) := by decide +kernel
theorem dX9_coverWith_83 : decode cX9_coverWith 83 = .ok (.istore 4, 2) := by decide +kernel
theorem dX9_coverWith_85 : decode cX9_coverWith 85 = .ok (.iload 4, 2) := by decide +kernel
theorem dX9_coverWith_87 : decode cX9_coverWith 87 = .ok (.bipush 8, 2) := by decide +kernel
theorem dX9_coverWith_89 : decode cX9_coverWith 89 = .ok (.if_icmp .lt 7, 3) := by decide +kernel
theorem dX9_coverWith_92 : decode cX9_coverWith 92 = .ok (.iload_n 1, 1) := by decide +kernel
theorem dX9_coverWith_93 : decode cX9_coverWith 93 = .ok (.ifCond .eq 96, 3) := by decide +kernel
theorem dX9_coverWith_96 : decode cX9_coverWith 96 = .ok (.aload_n 0, 1) := by decide +kernel
theorem dX9_coverWith_97 : decode cX9_coverWith 97 = .ok (.iload_n 2, 1) := by decide +kernel
theorem dX9_coverWith_98 : decode cX9_coverWith 98 = .ok (.iload 4, 2) := by decide +kernel
theorem dX9_coverWith_100 : decode cX9_coverWith 100 = .ok (.invokevirtual 130, 3) := by decide +kernel
theorem dX9_coverWith_103 : decode cX9_coverWith 103 = .ok (.ifCond .eq 86, 3) := by decide +kernel
theorem dX9_coverWith_106 : decode cX9_coverWith 106 = .ok (.aload_n 0, 1) := by decide +kernel
theorem dX9_coverWith_107 : decode cX9_coverWith 107 = .ok (.iload 4, 2) := by decide +kernel
theorem dX9_coverWith_109 : decode cX9_coverWith 109 = .ok (.invokevirtual 133, 3) := by decide +kernel
theorem dX9_coverWith_112 : decode cX9_coverWith 112 = .ok (.aload_n 0, 1) := by decide +kernel
theorem dX9_coverWith_113 : decode cX9_coverWith 113 = .ok (.getfield 34, 3) := by decide +kernel
theorem dX9_coverWith_116 : decode cX9_coverWith 116 = .ok (.iload_n 2, 1) := by decide +kernel
theorem dX9_coverWith_117 : decode cX9_coverWith 117 = .ok (.aload_n 0, 1) := by decide +kernel
theorem dX9_coverWith_118 : decode cX9_coverWith 118 = .ok (.getfield 28, 3) := by decide +kernel
theorem dX9_coverWith_121 : decode cX9_coverWith 121 = .ok (.aload_n 0, 1) := by decide +kernel
theorem dX9_coverWith_122 : decode cX9_coverWith 122 = .ok (.iload 4, 2) := by decide +kernel
theorem dX9_coverWith_124 : decode cX9_coverWith 124 = .ok (.invokevirtual 116, 3) := by decide +kernel
theorem dX9_coverWith_127 : decode cX9_coverWith 127 = .ok (.iaload, 1) := by decide +kernel
theorem dX9_coverWith_128 : decode cX9_coverWith 128 = .ok (.iadd, 1) := by decide +kernel
theorem dX9_coverWith_129 : decode cX9_coverWith 129 = .ok (.iaload, 1) := by decide +kernel
theorem dX9_coverWith_130 : decode cX9_coverWith 130 = .ok (.iadd, 1) := by decide +kernel
theorem dX9_coverWith_131 : decode cX9_coverWith 131 = .ok (.istore 5, 2) := by decide +kernel
theorem dX9_coverWith_133 : decode cX9_coverWith 133 = .ok (.aload_n 0, 1) := by decide +kernel
theorem dX9_coverWith_134 : decode cX9_coverWith 134 = .ok (.getfield 37, 3) := by decide +kernel
theorem dX9_coverWith_137 : decode cX9_coverWith 137 = .ok (.iload_n 2, 1) := by decide +kernel
theorem dX9_coverWith_138 : decode cX9_coverWith 138 = .ok (.iload 5, 2) := by decide +kernel
theorem dX9_coverWith_140 : decode cX9_coverWith 140 = .ok (.aload_n 0, 1) := by decide +kernel
theorem dX9_coverWith_141 : decode cX9_coverWith 141 = .ok (.getfield 34, 3) := by decide +kernel
theorem dX9_coverWith_144 : decode cX9_coverWith 144 = .ok (.iload_n 2, 1) := by decide +kernel
theorem dX9_coverWith_145 : decode cX9_coverWith 145 = .ok (.iaload, 1) := by decide +kernel
theorem dX9_coverWith_146 : decode cX9_coverWith 146 = .ok (.if_icmp .ge 8, 3) := by decide +kernel
theorem dX9_coverWith_149 : decode cX9_coverWith 149 = .ok (.iload 4, 2) := by decide +kernel
theorem dX9_coverWith_151 : decode cX9_coverWith 151 = .ok (.goto 9, 3) := by decide +kernel
theorem dX9_coverWith_154 : decode cX9_coverWith 154 = .ok (.aload_n 0, 1) := by decide +kernel
theorem dX9_coverWith_155 : decode cX9_coverWith 155 = .ok (.getfield 37, 3) := by decide +kernel
theorem dX9_coverWith_158 : decode cX9_coverWith 158 = .ok (.iload_n 2, 1) := by decide +kernel
theorem dX9_coverWith_159 : decode cX9_coverWith 159 = .ok (.iaload, 1) := by decide +kernel
theorem dX9_coverWith_160 : decode cX9_coverWith 160 = .ok (.iastore, 1) := by decide +kernel
theorem dX9_coverWith_161 : decode cX9_coverWith 161 = .ok (.aload_n 0, 1) := by decide +kernel
theorem dX9_coverWith_162 : decode cX9_coverWith 162 = .ok (.getfield 34, 3) := by decide +kernel
theorem dX9_coverWith_165 : decode cX9_coverWith 165 = .ok (.iload_n 2, 1) := by decide +kernel
theorem dX9_coverWith_166 : decode cX9_coverWith 166 = .ok (.iload 5, 2) := by decide +kernel
theorem dX9_coverWith_168 : decode cX9_coverWith 168 = .ok (.aload_n 0, 1) := by decide +kernel
theorem dX9_coverWith_169 : decode cX9_coverWith 169 = .ok (.getfield 34, 3) := by decide +kernel
theorem dX9_coverWith_172 : decode cX9_coverWith 172 = .ok (.iload_n 2, 1) := by decide +kernel
theorem dX9_coverWith_173 : decode cX9_coverWith 173 = .ok (.iaload, 1) := by decide +kernel
theorem dX9_coverWith_174 : decode cX9_coverWith 174 = .ok (.if_icmp .ge 8, 3) := by decide +kernel
theorem dX9_coverWith_177 : decode cX9_coverWith 177 = .ok (.iload 5, 2) := by decide +kernel
theorem dX9_coverWith_179 : decode cX9_coverWith 179 = .ok (.goto 9, 3) := by decide +kernel
theorem dX9_coverWith_182 : decode cX9_coverWith 182 = .ok (.aload_n 0, 1) := by decide +kernel
theorem dX9_coverWith_183 : decode cX9_coverWith 183 = .ok (.getfield 34, 3) := by decide +kernel
theorem dX9_coverWith_186 : decode cX9_coverWith 186 = .ok (.iload_n 2, 1) := by decide +kernel
theorem dX9_coverWith_187 : decode cX9_coverWith 187 = .ok (.iaload, 1) := by decide +kernel
theorem dX9_coverWith_188 : decode cX9_coverWith 188 = .ok (.iastore, 1) := by decide +kernel
theorem dX9_coverWith_189 : decode cX9_coverWith 189 = .ok (.iinc 3 1, 3) := by decide +kernel
theorem dX9_coverWith_192 : decode cX9_coverWith 192 = .ok (.goto (-137), 3) := by decide +kernel
theorem dX9_coverWith_195 : decode cX9_coverWith 195 = .ok (.iinc 2 (-1), 3) := by decide +kernel
theorem dX9_coverWith_198 : decode cX9_coverWith 198 = .ok (.goto (-181), 3) := by decide +kernel
theorem dX9_coverWith_201 : decode cX9_coverWith 201 = .ok (.aload_n 0, 1) := by decide +kernel
theorem dX9_coverWith_202 : decode cX9_coverWith 202 = .ok (.getfield 34, 3) := by decide +kernel
theorem dX9_coverWith_205 : decode cX9_coverWith 205 = .ok (.iconst 0, 1) := by decide +kernel
theorem dX9_coverWith_206 : decode cX9_coverWith 206 = .ok (.iaload, 1) := by decide +kernel
theorem dX9_coverWith_207 : decode cX9_coverWith 207 = .ok (.ireturn, 1) := by decide +kernel
theorem dX9_tableSize_0 : decode cX9_tableSize 0 = .ok (.iconst 0, 1) := by decide +kernel
theorem dX9_tableSize_1 : decode cX9_tableSize 1 = .ok (.istore_n 1, 1) := by decide +kernel
theorem dX9_tableSize_2 : decode cX9_tableSize 2 = .ok (.iconst 0, 1) := by decide +kernel
theorem dX9_tableSize_3 : decode cX9_tableSize 3 = .ok (.istore_n 2, 1) := by decide +kernel
theorem dX9_tableSize_4 : decode cX9_tableSize 4 = .ok (.iload_n 2, 1) := by decide +kernel
theorem dX9_tableSize_5 : decode cX9_tableSize 5 = .ok (.aload_n 0, 1) := by decide +kernel
theorem dX9_tableSize_6 : decode cX9_tableSize 6 = .ok (.getfield 28, 3) := by decide +kernel
theorem dX9_tableSize_9 : decode cX9_tableSize 9 = .ok (.bipush 82, 2) := by decide +kernel
theorem dX9_tableSize_11 : decode cX9_tableSize 11 = .ok (.iaload, 1) := by decide +kernel
theorem dX9_tableSize_12 : decode cX9_tableSize 12 = .ok (.if_icmp .ge 25, 3) := by decide +kernel
theorem dX9_tableSize_15 : decode cX9_tableSize 15 = .ok (.iload_n 1, 1) := by decide +kernel
theorem dX9_tableSize_16 : decode cX9_tableSize 16 = .ok (.iconst 1, 1) := by decide +kernel
theorem dX9_tableSize_17 : decode cX9_tableSize 17 = .ok (.iconst 2, 1) := by decide +kernel
theorem dX9_tableSize_18 : decode cX9_tableSize 18 = .ok (.aload_n 0, 1) := by decide +kernel
theorem dX9_tableSize_19 : decode cX9_tableSize 19 = .ok (.getfield 28, 3) := by decide +kernel
theorem dX9_tableSize_22 : decode cX9_tableSize 22 = .ok (.bipush 10, 2) := by decide +kernel
theorem dX9_tableSize_24 : decode cX9_tableSize 24 = .ok (.iload_n 2, 1) := by decide +kernel
theorem dX9_tableSize_25 : decode cX9_tableSize 25 = .ok (.imul, 1) := by decide +kernel
theorem dX9_tableSize_26 : decode cX9_tableSize 26 = .ok (.iaload, 1) := by decide +kernel
theorem dX9_tableSize_27 : decode cX9_tableSize 27 = .ok (.imul, 1) := by decide +kernel
theorem dX9_tableSize_28 : decode cX9_tableSize 28 = .ok (.iadd, 1) := by decide +kernel
theorem dX9_tableSize_29 : decode cX9_tableSize 29 = .ok (.iadd, 1) := by decide +kernel
theorem dX9_tableSize_30 : decode cX9_tableSize 30 = .ok (.istore_n 1, 1) := by decide +kernel
theorem dX9_tableSize_31 : decode cX9_tableSize 31 = .ok (.iinc 2 1, 3) := by decide +kernel
theorem dX9_tableSize_34 : decode cX9_tableSize 34 = .ok (.goto (-30), 3) := by decide +kernel
theorem dX9_tableSize_37 : decode cX9_tableSize 37 = .ok (.iload_n 1, 1) := by decide +kernel
theorem dX9_tableSize_38 : decode cX9_tableSize 38 = .ok (.ireturn, 1) := by decide +kernel
theorem dX9_lines_0 : decode cX9_lines 0 = .ok (.aload_n 0, 1) := by decide +kernel
theorem dX9_lines_1 : decode cX9_lines 1 = .ok (.getfield 103, 3) := by decide +kernel
theorem dX9_lines_4 : decode cX9_lines 4 = .ok (.aload_n 0, 1) := by decide +kernel
theorem dX9_lines_5 : decode cX9_lines 5 = .ok (.getfield 28, 3) := by decide +kernel
theorem dX9_lines_8 : decode cX9_lines 8 = .ok (.bipush 80, 2) := by decide +kernel
theorem dX9_lines_10 : decode cX9_lines 10 = .ok (.iaload, 1) := by decide +kernel
theorem dX9_lines_11 : decode cX9_lines 11 = .ok (.iadd, 1) := by decide +kernel
theorem dX9_lines_12 : decode cX9_lines 12 = .ok (.iconst 1, 1) := by decide +kernel
theorem dX9_lines_13 : decode cX9_lines 13 = .ok (.isub, 1) := by decide +kernel
theorem dX9_lines_14 : decode cX9_lines 14 = .ok (.aload_n 0, 1) := by decide +kernel
theorem dX9_lines_15 : decode cX9_lines 15 = .ok (.getfield 28, 3) := by decide +kernel
theorem dX9_lines_18 : decode cX9_lines 18 = .ok (.bipush 80, 2) := by decide +kernel
theorem dX9_lines_20 : decode cX9_lines 20 = .ok (.iaload, 1) := by decide +kernel
theorem dX9_lines_21 : decode cX9_lines 21 = .ok (.idiv, 1) := by decide +kernel
theorem dX9_lines_22 : decode cX9_lines 22 = .ok (.ireturn, 1) := by decide +kernel
theorem dX9_cover_0 : decode cX9_cover 0 = .ok (.aload_n 0, 1) := by decide +kernel
theorem dX9_cover_1 : decode cX9_cover 1 = .ok (.iconst 0, 1) := by decide +kernel
theorem dX9_cover_2 : decode cX9_cover 2 = .ok (.invokevirtual 136, 3) := by decide +kernel
theorem dX9_cover_5 : decode cX9_cover 5 = .ok (.pop, 1) := by decide +kernel
theorem dX9_cover_6 : decode cX9_cover 6 = .ok (.iconst 0, 1) := by decide +kernel
theorem dX9_cover_7 : decode cX9_cover 7 = .ok (.istore_n 1, 1) := by decide +kernel
theorem dX9_cover_8 : decode cX9_cover 8 = .ok (.iconst 0, 1) := by decide +kernel
theorem dX9_cover_9 : decode cX9_cover 9 = .ok (.istore_n 2, 1) := by decide +kernel
theorem dX9_cover_10 : decode cX9_cover 10 = .ok (.iload_n 2, 1) := by decide +kernel
theorem dX9_cover_11 : decode cX9_cover 11 = .ok (.aload_n 0, 1) := by decide +kernel
theorem dX9_cover_12 : decode cX9_cover 12 = .ok (.getfield 103, 3) := by decide +kernel
theorem dX9_cover_15 : decode cX9_cover 15 = .ok (.if_icmp .ge 124, 3) := by decide +kernel
theorem dX9_cover_18 : decode cX9_cover 18 = .ok (.aload_n 0, 1) := by decide +kernel
theorem dX9_cover_19 : decode cX9_cover 19 = .ok (.getfield 37, 3) := by decide +kernel
theorem dX9_cover_22 : decode cX9_cover 22 = .ok (.iload_n 2, 1) := by decide +kernel
theorem dX9_cover_23 : decode cX9_cover 23 = .ok (.iaload, 1) := by decide +kernel
theorem dX9_cover_24 : decode cX9_cover 24 = .ok (.bipush (-4), 2) := by decide +kernel
theorem dX9_cover_26 : decode cX9_cover 26 = .ok (.if_icmp .ne 7, 3) := by decide +kernel
theorem dX9_cover_29 : decode cX9_cover 29 = .ok (.iconst 1, 1) := by decide +kernel
theorem dX9_cover_30 : decode cX9_cover 30 = .ok (.goto 17, 3) := by decide +kernel
theorem dX9_cover_33 : decode cX9_cover 33 = .ok (.aload_n 0, 1) := by decide +kernel
theorem dX9_cover_34 : decode cX9_cover 34 = .ok (.getfield 28, 3) := by decide +kernel
theorem dX9_cover_37 : decode cX9_cover 37 = .ok (.bipush 10, 2) := by decide +kernel
theorem dX9_cover_39 : decode cX9_cover 39 = .ok (.aload_n 0, 1) := by decide +kernel
theorem dX9_cover_40 : decode cX9_cover 40 = .ok (.getfield 37, 3) := by decide +kernel
theorem dX9_cover_43 : decode cX9_cover 43 = .ok (.iload_n 2, 1) := by decide +kernel
theorem dX9_cover_44 : decode cX9_cover 44 = .ok (.iaload, 1) := by decide +kernel
theorem dX9_cover_45 : decode cX9_cover 45 = .ok (.imul, 1) := by decide +kernel
theorem dX9_cover_46 : decode cX9_cover 46 = .ok (.iaload, 1) := by decide +kernel
theorem dX9_cover_47 : decode cX9_cover 47 = .ok (.istore_n 3, 1) := by decide +kernel
theorem dX9_cover_48 : decode cX9_cover 48 = .ok (.aload_n 0, 1) := by decide +kernel
theorem dX9_cover_49 : decode cX9_cover 49 = .ok (.getfield 40, 3) := by decide +kernel
theorem dX9_cover_52 : decode cX9_cover 52 = .ok (.iload_n 2, 1) := by decide +kernel
theorem dX9_cover_53 : decode cX9_cover 53 = .ok (.iload_n 1, 1) := by decide +kernel
theorem dX9_cover_54 : decode cX9_cover 54 = .ok (.iastore, 1) := by decide +kernel
theorem dX9_cover_55 : decode cX9_cover 55 = .ok (.iload_n 1, 1) := by decide +kernel
theorem dX9_cover_56 : decode cX9_cover 56 = .ok (.aload_n 0, 1) := by decide +kernel
theorem dX9_cover_57 : decode cX9_cover 57 = .ok (.getfield 37, 3) := by decide +kernel
theorem dX9_cover_60 : decode cX9_cover 60 = .ok (.iload_n 2, 1) := by decide +kernel
theorem dX9_cover_61 : decode cX9_cover 61 = .ok (.iaload, 1) := by decide +kernel
theorem dX9_cover_62 : decode cX9_cover 62 = .ok (.bipush (-4), 2) := by decide +kernel
theorem dX9_cover_64 : decode cX9_cover 64 = .ok (.if_icmp .ne 15, 3) := by decide +kernel
theorem dX9_cover_67 : decode cX9_cover 67 = .ok (.aload_n 0, 1) := by decide +kernel
theorem dX9_cover_68 : decode cX9_cover 68 = .ok (.getfield 19, 3) := by decide +kernel
theorem dX9_cover_71 : decode cX9_cover 71 = .ok (.iload_n 2, 1) := by decide +kernel
theorem dX9_cover_72 : decode cX9_cover 72 = .ok (.iaload, 1) := by decide +kernel
theorem dX9_cover_73 : decode cX9_cover 73 = .ok (.invokestatic 127, 3) := by decide +kernel
theorem dX9_cover_76 : decode cX9_cover 76 = .ok (.goto 13, 3) := by decide +kernel
theorem dX9_cover_79 : decode cX9_cover 79 = .ok (.aload_n 0, 1) := by decide +kernel
theorem dX9_cover_80 : decode cX9_cover 80 = .ok (.aload_n 0, 1) := by decide +kernel
theorem dX9_cover_81 : decode cX9_cover 81 = .ok (.getfield 37, 3) := by decide +kernel
theorem dX9_cover_84 : decode cX9_cover 84 = .ok (.iload_n 2, 1) := by decide +kernel
theorem dX9_cover_85 : decode cX9_cover 85 = .ok (.iaload, 1) := by decide +kernel
theorem dX9_cover_86 : decode cX9_cover 86 = .ok (.invokevirtual 133, 3) := by decide +kernel
theorem dX9_cover_89 : decode cX9_cover 89 = .ok (.iadd, 1) := by decide +kernel
theorem dX9_cover_90 : decode cX9_cover 90 = .ok (.istore_n 1, 1) := by decide +kernel
theorem dX9_cover_91 : decode cX9_cover 91 = .ok (.iconst 1, 1) := by decide +kernel
theorem dX9_cover_92 : decode cX9_cover 92 = .ok (.istore 4, 2) := by decide +kernel
theorem dX9_cover_94 : decode cX9_cover 94 = .ok (.iload 4, 2) := by decide +kernel
theorem dX9_cover_96 : decode cX9_cover 96 = .ok (.iload_n 3, 1) := by decide +kernel
theorem dX9_cover_97 : decode cX9_cover 97 = .ok (.if_icmp .ge 35, 3) := by decide +kernel
theorem dX9_cover_100 : decode cX9_cover 100 = .ok (.aload_n 0, 1) := by decide +kernel
theorem dX9_cover_101 : decode cX9_cover 101 = .ok (.getfield 40, 3) := by decide +kernel
theorem dX9_cover_104 : decode cX9_cover 104 = .ok (.iload_n 2, 1) := by decide +kernel
theorem dX9_cover_105 : decode cX9_cover 105 = .ok (.iload 4, 2) := by decide +kernel
theorem dX9_cover_107 : decode cX9_cover 107 = .ok (.iadd, 1) := by decide +kernel
theorem dX9_cover_108 : decode cX9_cover 108 = .ok (.bipush (-4), 2) := by decide +kernel
theorem dX9_cover_110 : decode cX9_cover 110 = .ok (.iastore, 1) := by decide +kernel
theorem dX9_cover_111 : decode cX9_cover 111 = .ok (.aload_n 0, 1) := by decide +kernel
theorem dX9_cover_112 : decode cX9_cover 112 = .ok (.getfield 37, 3) := by decide +kernel
theorem dX9_cover_115 : decode cX9_cover 115 = .ok (.iload_n 2, 1) := by decide +kernel
theorem dX9_cover_116 : decode cX9_cover 116 = .ok (.iload 4, 2) := by decide +kernel
theorem dX9_cover_118 : decode cX9_cover 118 = .ok (.iadd, 1) := by decide +kernel
theorem dX9_cover_119 : decode cX9_cover 119 = .ok (.aload_n 0, 1) := by decide +kernel
theorem dX9_cover_120 : decode cX9_cover 120 = .ok (.getfield 37, 3) := by decide +kernel
theorem dX9_cover_123 : decode cX9_cover 123 = .ok (.iload_n 2, 1) := by decide +kernel
theorem dX9_cover_124 : decode cX9_cover 124 = .ok (.iaload, 1) := by decide +kernel
theorem dX9_cover_125 : decode cX9_cover 125 = .ok (.iastore, 1) := by decide +kernel
theorem dX9_cover_126 : decode cX9_cover 126 = .ok (.iinc 4 1, 3) := by decide +kernel
theorem dX9_cover_129 : decode cX9_cover 129 = .ok (.goto (-35), 3) := by decide +kernel
theorem dX9_cover_132 : decode cX9_cover 132 = .ok (.iload_n 2, 1) := by decide +kernel
theorem dX9_cover_133 : decode cX9_cover 133 = .ok (.iload_n 3, 1) := by decide +kernel
theorem dX9_cover_134 : decode cX9_cover 134 = .ok (.iadd, 1) := by decide +kernel
theorem dX9_cover_135 : decode cX9_cover 135 = .ok (.istore_n 2, 1) := by decide +kernel
theorem dX9_cover_136 : decode cX9_cover 136 = .ok (.goto (-126), 3) := by decide +kernel
theorem dX9_cover_139 : decode cX9_cover 139 = .ok (.aload_n 0, 1) := by decide +kernel
theorem dX9_cover_140 : decode cX9_cover 140 = .ok (.getfield 40, 3) := by decide +kernel
theorem dX9_cover_143 : decode cX9_cover 143 = .ok (.aload_n 0, 1) := by decide +kernel
theorem dX9_cover_144 : decode cX9_cover 144 = .ok (.getfield 103, 3) := by decide +kernel
theorem dX9_cover_147 : decode cX9_cover 147 = .ok (.iload_n 1, 1) := by decide +kernel
theorem dX9_cover_148 : decode cX9_cover 148 = .ok (.iastore, 1) := by decide +kernel
theorem dX9_cover_149 : decode cX9_cover 149 = .ok (.return_, 1) := by decide +kernel
theorem dX9_gainOf_0 : decode cX9_gainOf 0 = .ok (.aload_n 0, 1) := by decide +kernel
theorem dX9_gainOf_1 : decode cX9_gainOf 1 = .ok (.getfield 40, 3) := by decide +kernel
theorem dX9_gainOf_4 : decode cX9_gainOf 4 = .ok (.aload_n 0, 1) := by decide +kernel
theorem dX9_gainOf_5 : decode cX9_gainOf 5 = .ok (.getfield 103, 3) := by decide +kernel
theorem dX9_gainOf_8 : decode cX9_gainOf 8 = .ok (.iaload, 1) := by decide +kernel
theorem dX9_gainOf_9 : decode cX9_gainOf 9 = .ok (.istore 4, 2) := by decide +kernel
theorem dX9_gainOf_11 : decode cX9_gainOf 11 = .ok (.aload_n 0, 1) := by decide +kernel
theorem dX9_gainOf_12 : decode cX9_gainOf 12 = .ok (.bipush 8, 2) := by decide +kernel
theorem dX9_gainOf_14 : decode cX9_gainOf 14 = .ok (.iload_n 1, 1) := by decide +kernel
theorem dX9_gainOf_15 : decode cX9_gainOf 15 = .ok (.iload_n 2, 1) := by decide +kernel
theorem dX9_gainOf_16 : decode cX9_gainOf 16 = .ok (.iload_n 3, 1) := by decide +kernel
theorem dX9_gainOf_17 : decode cX9_gainOf 17 = .ok (.invokevirtual 123, 3) := by decide +kernel
theorem dX9_gainOf_20 : decode cX9_gainOf 20 = .ok (.aload_n 0, 1) := by decide +kernel
theorem dX9_gainOf_21 : decode cX9_gainOf 21 = .ok (.iconst 1, 1) := by decide +kernel
theorem dX9_gainOf_22 : decode cX9_gainOf 22 = .ok (.invokevirtual 136, 3) := by decide +kernel
theorem dX9_gainOf_25 : decode cX9_gainOf 25 = .ok (.iconst 1, 1) := by decide +kernel
theorem dX9_gainOf_26 : decode cX9_gainOf 26 = .ok (.iadd, 1) := by decide +kernel
theorem dX9_gainOf_27 : decode cX9_gainOf 27 = .ok (.iconst 2, 1) := by decide +kernel
theorem dX9_gainOf_28 : decode cX9_gainOf 28 = .ok (.iload_n 2, 1) := by decide +kernel
theorem dX9_gainOf_29 : decode cX9_gainOf 29 = .ok (.imul, 1) := by decide +kernel
theorem dX9_gainOf_30 : decode cX9_gainOf 30 = .ok (.iadd, 1) := by decide +kernel
theorem dX9_gainOf_31 : decode cX9_gainOf 31 = .ok (.istore 5, 2) := by decide +kernel
theorem dX9_gainOf_33 : decode cX9_gainOf 33 = .ok (.iload 4, 2) := by decide +kernel
theorem dX9_gainOf_35 : decode cX9_gainOf 35 = .ok (.iload 5, 2) := by decide +kernel
theorem dX9_gainOf_37 : decode cX9_gainOf 37 = .ok (.isub, 1) := by decide +kernel
theorem dX9_gainOf_38 : decode cX9_gainOf 38 = .ok (.ireturn, 1) := by decide +kernel
theorem dX9_note_0 : decode cX9_note 0 = .ok (.aload_n 0, 1) := by decide +kernel
theorem dX9_note_1 : decode cX9_note 1 = .ok (.getfield 106, 3) := by decide +kernel
theorem dX9_note_4 : decode cX9_note 4 = .ok (.bipush 6, 2) := by decide +kernel
theorem dX9_note_6 : decode cX9_note 6 = .ok (.if_icmp .ne 43, 3) := by decide +kernel
theorem dX9_note_9 : decode cX9_note 9 = .ok (.iconst 0, 1) := by decide +kernel
theorem dX9_note_10 : decode cX9_note 10 = .ok (.istore_n 1, 1) := by decide +kernel
theorem dX9_note_11 : decode cX9_note 11 = .ok (.iload_n 1, 1) := by decide +kernel
theorem dX9_note_12 : decode cX9_note 12 = .ok (.sipush 415, 3) := by decide +kernel
theorem dX9_note_15 : decode cX9_note 15 = .ok (.if_icmp .ge 24, 3) := by decide +kernel
theorem dX9_note_18 : decode cX9_note 18 = .ok (.aload_n 0, 1) := by decide +kernel
theorem dX9_note_19 : decode cX9_note 19 = .ok (.getfield 31, 3) := by decide +kernel
theorem dX9_note_22 : decode cX9_note 22 = .ok (.iload_n 1, 1) := by decide +kernel
theorem dX9_note_23 : decode cX9_note 23 = .ok (.aload_n 0, 1) := by decide +kernel
theorem dX9_note_24 : decode cX9_note 24 = .ok (.getfield 31, 3) := by decide +kernel
theorem dX9_note_27 : decode cX9_note 27 = .ok (.bipush 83, 2) := by decide +kernel
theorem dX9_note_29 : decode cX9_note 29 = .ok (.iload_n 1, 1) := by decide +kernel
theorem dX9_note_30 : decode cX9_note 30 = .ok (.iadd, 1) := by decide +kernel
theorem dX9_note_31 : decode cX9_note 31 = .ok (.iaload, 1) := by decide +kernel
theorem dX9_note_32 : decode cX9_note 32 = .ok (.iastore, 1) := by decide +kernel
theorem dX9_note_33 : decode cX9_note 33 = .ok (.iinc 1 1, 3) := by decide +kernel
theorem dX9_note_36 : decode cX9_note 36 = .ok (.goto (-25), 3) := by decide +kernel
theorem dX9_note_39 : decode cX9_note 39 = .ok (.aload_n 0, 1) := by decide +kernel
theorem dX9_note_40 : decode cX9_note 40 = .ok (.dup, 1) := by decide +kernel
theorem dX9_note_41 : decode cX9_note 41 = .ok (.getfield 106, 3) := by decide +kernel
theorem dX9_note_44 : decode cX9_note 44 = .ok (.iconst 1, 1) := by decide +kernel
theorem dX9_note_45 : decode cX9_note 45 = .ok (.isub, 1) := by decide +kernel
theorem dX9_note_46 : decode cX9_note 46 = .ok (.putfield 106, 3) := by decide +kernel
theorem dX9_note_49 : decode cX9_note 49 = .ok (.iconst 0, 1) := by decide +kernel
theorem dX9_note_50 : decode cX9_note 50 = .ok (.istore_n 1, 1) := by decide +kernel
theorem dX9_note_51 : decode cX9_note 51 = .ok (.iload_n 1, 1) := by decide +kernel
theorem dX9_note_52 : decode cX9_note 52 = .ok (.bipush 83, 2) := by decide +kernel
theorem dX9_note_54 : decode cX9_note 54 = .ok (.if_icmp .ge 29, 3) := by decide +kernel
theorem dX9_note_57 : decode cX9_note 57 = .ok (.aload_n 0, 1) := by decide +kernel
theorem dX9_note_58 : decode cX9_note 58 = .ok (.getfield 31, 3) := by decide +kernel
theorem dX9_note_61 : decode cX9_note 61 = .ok (.bipush 83, 2) := by decide +kernel
theorem dX9_note_63 : decode cX9_note 63 = .ok (.aload_n 0, 1) := by decide +kernel
theorem dX9_note_64 : decode cX9_note 64 = .ok (.getfield 106, 3) := by decide +kernel
theorem dX9_note_67 : decode cX9_note 67 = .ok (.imul, 1) := by decide +kernel
theorem dX9_note_68 : decode cX9_note 68 = .ok (.iload_n 1, 1) := by decide +kernel
theorem dX9_note_69 : decode cX9_note 69 = .ok (.iadd, 1) := by decide +kernel
theorem dX9_note_70 : decode cX9_note 70 = .ok (.aload_n 0, 1) := by decide +kernel
theorem dX9_note_71 : decode cX9_note 71 = .ok (.getfield 28, 3) := by decide +kernel
theorem dX9_note_74 : decode cX9_note 74 = .ok (.iload_n 1, 1) := by decide +kernel
theorem dX9_note_75 : decode cX9_note 75 = .ok (.iaload, 1) := by decide +kernel
theorem dX9_note_76 : decode cX9_note 76 = .ok (.iastore, 1) := by decide +kernel
theorem dX9_note_77 : decode cX9_note 77 = .ok (.iinc 1 1, 3) := by decide +kernel
theorem dX9_note_80 : decode cX9_note 80 = .ok (.goto (-29), 3) := by decide +kernel
theorem dX9_note_83 : decode cX9_note 83 = .ok (.aload_n 0, 1) := by decide +kernel
theorem dX9_note_84 : decode cX9_note 84 = .ok (.dup, 1) := by decide +kernel
theorem dX9_note_85 : decode cX9_note 85 = .ok (.getfield 106, 3) := by decide +kernel
theorem dX9_note_88 : decode cX9_note 88 = .ok (.iconst 1, 1) := by decide +kernel
theorem dX9_note_89 : decode cX9_note 89 = .ok (.iadd, 1) := by decide +kernel
theorem dX9_note_90 : decode cX9_note 90 = .ok (.putfield 106, 3) := by decide +kernel
theorem dX9_note_93 : decode cX9_note 93 = .ok (.aload_n 0, 1) := by decide +kernel
theorem dX9_note_94 : decode cX9_note 94 = .ok (.iconst 0, 1) := by decide +kernel
theorem dX9_note_95 : decode cX9_note 95 = .ok (.putfield 109, 3) := by decide +kernel
theorem dX9_note_98 : decode cX9_note 98 = .ok (.return_, 1) := by decide +kernel
theorem dX9_refusal_0 : decode cX9_refusal 0 = .ok (.aload_n 0, 1) := by decide +kernel
theorem dX9_refusal_1 : decode cX9_refusal 1 = .ok (.iload_n 1, 1) := by decide +kernel
theorem dX9_refusal_2 : decode cX9_refusal 2 = .ok (.invokevirtual 140, 3) := by decide +kernel
theorem dX9_refusal_5 : decode cX9_refusal 5 = .ok (.ifCond .eq 32, 3) := by decide +kernel
theorem dX9_refusal_8 : decode cX9_refusal 8 = .ok (.iload_n 2, 1) := by decide +kernel
theorem dX9_refusal_9 : decode cX9_refusal 9 = .ok (.i2l, 1) := by decide +kernel
theorem dX9_refusal_10 : decode cX9_refusal 10 = .ok (.ldc2_w 143, 3) := by decide +kernel
theorem dX9_refusal_13 : decode cX9_refusal 13 = .ok (.ldc2_w 145, 3) := by decide +kernel
theorem dX9_refusal_16 : decode cX9_refusal 16 = .ok (.invokestatic 71, 3) := by decide +kernel
theorem dX9_refusal_19 : decode cX9_refusal 19 = .ok (.ifCond .eq 18, 3) := by decide +kernel
theorem dX9_refusal_22 : decode cX9_refusal 22 = .ok (.iload_n 3, 1) := by decide +kernel
theorem dX9_refusal_23 : decode cX9_refusal 23 = .ok (.i2l, 1) := by decide +kernel
theorem dX9_refusal_24 : decode cX9_refusal 24 = .ok (.ldc2_w 147, 3) := by decide +kernel
theorem dX9_refusal_27 : decode cX9_refusal 27 = .ok (.iload_n 2, 1) := by decide +kernel
theorem dX9_refusal_28 : decode cX9_refusal 28 = .ok (.iconst 1, 1) := by decide +kernel
theorem dX9_refusal_29 : decode cX9_refusal 29 = .ok (.isub, 1) := by decide +kernel
theorem dX9_refusal_30 : decode cX9_refusal 30 = .ok (.i2l, 1) := by decide +kernel
theorem dX9_refusal_31 : decode cX9_refusal 31 = .ok (.invokestatic 71, 3) := by decide +kernel
theorem dX9_refusal_34 : decode cX9_refusal 34 = .ok (.ifCond .ne 5, 3) := by decide +kernel
theorem dX9_refusal_37 : decode cX9_refusal 37 = .ok (.iconst (-1), 1) := by decide +kernel
theorem dX9_refusal_38 : decode cX9_refusal 38 = .ok (.ireturn, 1) := by decide +kernel
theorem dX9_refusal_39 : decode cX9_refusal 39 = .ok (.aload_n 0, 1) := by decide +kernel
theorem dX9_refusal_40 : decode cX9_refusal 40 = .ok (.iload_n 1, 1) := by decide +kernel
theorem dX9_refusal_41 : decode cX9_refusal 41 = .ok (.iload_n 2, 1) := by decide +kernel
theorem dX9_refusal_42 : decode cX9_refusal 42 = .ok (.invokevirtual 119, 3) := by decide +kernel
theorem dX9_refusal_45 : decode cX9_refusal 45 = .ok (.ifCond .eq 13, 3) := by decide +kernel
theorem dX9_refusal_48 : decode cX9_refusal 48 = .ok (.aload_n 0, 1) := by decide +kernel
theorem dX9_refusal_49 : decode cX9_refusal 49 = .ok (.iload_n 1, 1) := by decide +kernel
theorem dX9_refusal_50 : decode cX9_refusal 50 = .ok (.iload_n 2, 1) := by decide +kernel
theorem dX9_refusal_51 : decode cX9_refusal 51 = .ok (.iload_n 3, 1) := by decide +kernel
theorem dX9_refusal_52 : decode cX9_refusal 52 = .ok (.invokevirtual 149, 3) := by decide +kernel
theorem dX9_refusal_55 : decode cX9_refusal 55 = .ok (.ifCond .eq 6, 3) := by decide +kernel
theorem dX9_refusal_58 : decode cX9_refusal 58 = .ok (.bipush (-2), 2) := by decide +kernel
theorem dX9_refusal_60 : decode cX9_refusal 60 = .ok (.ireturn, 1) := by decide +kernel
theorem dX9_refusal_61 : decode cX9_refusal 61 = .ok (.aload_n 0, 1) := by decide +kernel
theorem dX9_refusal_62 : decode cX9_refusal 62 = .ok (.getfield 28, 3) := by decide +kernel
theorem dX9_refusal_65 : decode cX9_refusal 65 = .ok (.bipush 82, 2) := by decide +kernel
theorem dX9_refusal_67 : decode cX9_refusal 67 = .ok (.iaload, 1) := by decide +kernel
theorem dX9_refusal_68 : decode cX9_refusal 68 = .ok (.bipush 8, 2) := by decide +kernel
theorem dX9_refusal_70 : decode cX9_refusal 70 = .ok (.if_icmp .ne 8, 3) := by decide +kernel
theorem dX9_refusal_73 : decode cX9_refusal 73 = .ok (.bipush (-3), 2) := by decide +kernel
theorem dX9_refusal_75 : decode cX9_refusal 75 = .ok (.goto 4, 3) := by decide +kernel
theorem dX9_refusal_78 : decode cX9_refusal 78 = .ok (.iconst 0, 1) := by decide +kernel
theorem dX9_refusal_79 : decode cX9_refusal 79 = .ok (.ireturn, 1) := by decide +kernel
theorem dX9_add_0 : decode cX9_add 0 = .ok (.aload_n 0, 1) := by decide +kernel
theorem dX9_add_1 : decode cX9_add 1 = .ok (.iload_n 1, 1) := by decide +kernel
theorem dX9_add_2 : decode cX9_add 2 = .ok (.iload_n 2, 1) := by decide +kernel
theorem dX9_add_3 : decode cX9_add 3 = .ok (.iload_n 3, 1) := by decide +kernel
theorem dX9_add_4 : decode cX9_add 4 = .ok (.invokevirtual 153, 3) := by decide +kernel
theorem dX9_add_7 : decode cX9_add 7 = .ok (.istore 4, 2) := by decide +kernel
theorem dX9_add_9 : decode cX9_add 9 = .ok (.iload 4, 2) := by decide +kernel
theorem dX9_add_11 : decode cX9_add 11 = .ok (.ifCond .eq 6, 3) := by decide +kernel
theorem dX9_add_14 : decode cX9_add 14 = .ok (.iload 4, 2) := by decide +kernel
theorem dX9_add_16 : decode cX9_add 16 = .ok (.ireturn, 1) := by decide +kernel
theorem dX9_add_17 : decode cX9_add 17 = .ok (.aload_n 0, 1) := by decide +kernel
theorem dX9_add_18 : decode cX9_add 18 = .ok (.invokevirtual 157, 3) := by decide +kernel
theorem dX9_add_21 : decode cX9_add 21 = .ok (.aload_n 0, 1) := by decide +kernel
theorem dX9_add_22 : decode cX9_add 22 = .ok (.aload_n 0, 1) := by decide +kernel
theorem dX9_add_23 : decode cX9_add 23 = .ok (.getfield 28, 3) := by decide +kernel
theorem dX9_add_26 : decode cX9_add 26 = .ok (.bipush 82, 2) := by decide +kernel
theorem dX9_add_28 : decode cX9_add 28 = .ok (.iaload, 1) := by decide +kernel
theorem dX9_add_29 : decode cX9_add 29 = .ok (.iload_n 1, 1) := by decide +kernel
theorem dX9_add_30 : decode cX9_add 30 = .ok (.iload_n 2, 1) := by decide +kernel
theorem dX9_add_31 : decode cX9_add 31 = .ok (.iload_n 3, 1) := by decide +kernel
theorem dX9_add_32 : decode cX9_add 32 = .ok (.invokevirtual 123, 3) := by decide +kernel
theorem dX9_add_35 : decode cX9_add 35 = .ok (.aload_n 0, 1) := by decide +kernel
theorem dX9_add_36 : decode cX9_add 36 = .ok (.getfield 28, 3) := by decide +kernel
theorem dX9_add_39 : decode cX9_add 39 = .ok (.bipush 82, 2) := by decide +kernel
theorem dX9_add_41 : decode cX9_add 41 = .ok (.dup2, 1) := by decide +kernel
theorem dX9_add_42 : decode cX9_add 42 = .ok (.iaload, 1) := by decide +kernel
theorem dX9_add_43 : decode cX9_add 43 = .ok (.iconst 1, 1) := by decide +kernel
theorem dX9_add_44 : decode cX9_add 44 = .ok (.iadd, 1) := by decide +kernel
theorem dX9_add_45 : decode cX9_add 45 = .ok (.iastore, 1) := by decide +kernel
theorem dX9_add_46 : decode cX9_add 46 = .ok (.aload_n 0, 1) := by decide +kernel
theorem dX9_add_47 : decode cX9_add 47 = .ok (.invokevirtual 113, 3) := by decide +kernel
theorem dX9_add_50 : decode cX9_add 50 = .ok (.aload_n 0, 1) := by decide +kernel
theorem dX9_add_51 : decode cX9_add 51 = .ok (.getfield 28, 3) := by decide +kernel
theorem dX9_add_54 : decode cX9_add 54 = .ok (.bipush 82, 2) := by decide +kernel
theorem dX9_add_56 : decode cX9_add 56 = .ok (.iaload, 1) := by decide +kernel
theorem dX9_add_57 : decode cX9_add 57 = .ok (.iconst 1, 1) := by decide +kernel
theorem dX9_add_58 : decode cX9_add 58 = .ok (.isub, 1) := by decide +kernel
theorem dX9_add_59 : decode cX9_add 59 = .ok (.ireturn, 1) := by decide +kernel
theorem dX9_drop_0 : decode cX9_drop 0 = .ok (.aload_n 0, 1) := by decide +kernel
theorem dX9_drop_1 : decode cX9_drop 1 = .ok (.iload_n 1, 1) := by decide +kernel
theorem dX9_drop_2 : decode cX9_drop 2 = .ok (.invokevirtual 160, 3) := by decide +kernel
theorem dX9_drop_5 : decode cX9_drop 5 = .ok (.ifCond .ne 5, 3) := by decide +kernel
theorem dX9_drop_8 : decode cX9_drop 8 = .ok (.iconst (-1), 1) := by decide +kernel
theorem dX9_drop_9 : decode cX9_drop 9 = .ok (.ireturn, 1) := by decide +kernel
theorem dX9_drop_10 : decode cX9_drop 10 = .ok (.aload_n 0, 1) := by decide +kernel
theorem dX9_drop_11 : decode cX9_drop 11 = .ok (.invokevirtual 157, 3) := by decide +kernel
theorem dX9_drop_14 : decode cX9_drop 14 = .ok (.aload_n 0, 1) := by decide +kernel
theorem dX9_drop_15 : decode cX9_drop 15 = .ok (.getfield 28, 3) := by decide +kernel
theorem dX9_drop_18 : decode cX9_drop 18 = .ok (.bipush 82, 2) := by decide +kernel
theorem dX9_drop_20 : decode cX9_drop 20 = .ok (.dup2, 1) := by decide +kernel
theorem dX9_drop_21 : decode cX9_drop 21 = .ok (.iaload, 1) := by decide +kernel
theorem dX9_drop_22 : decode cX9_drop 22 = .ok (.iconst 1, 1) := by decide +kernel
theorem dX9_drop_23 : decode cX9_drop 23 = .ok (.isub, 1) := by decide +kernel
theorem dX9_drop_24 : decode cX9_drop 24 = .ok (.iastore, 1) := by decide +kernel
theorem dX9_drop_25 : decode cX9_drop 25 = .ok (.bipush 10, 2) := by decide +kernel
theorem dX9_drop_27 : decode cX9_drop 27 = .ok (.iload_n 1, 1) := by decide +kernel
theorem dX9_drop_28 : decode cX9_drop 28 = .ok (.imul, 1) := by decide +kernel
theorem dX9_drop_29 : decode cX9_drop 29 = .ok (.istore_n 2, 1) := by decide +kernel
theorem dX9_drop_30 : decode cX9_drop 30 = .ok (.iload_n 2, 1) := by decide +kernel
theorem dX9_drop_31 : decode cX9_drop 31 = .ok (.bipush 10, 2) := by decide +kernel
theorem dX9_drop_33 : decode cX9_drop 33 = .ok (.aload_n 0, 1) := by decide +kernel
theorem dX9_drop_34 : decode cX9_drop 34 = .ok (.getfield 28, 3) := by decide +kernel
theorem dX9_drop_37 : decode cX9_drop 37 = .ok (.bipush 82, 2) := by decide +kernel
theorem dX9_drop_39 : decode cX9_drop 39 = .ok (.iaload, 1) := by decide +kernel
theorem dX9_drop_40 : decode cX9_drop 40 = .ok (.imul, 1) := by decide +kernel
theorem dX9_drop_41 : decode cX9_drop 41 = .ok (.if_icmp .ge 24, 3) := by decide +kernel
theorem dX9_drop_44 : decode cX9_drop 44 = .ok (.aload_n 0, 1) := by decide +kernel
theorem dX9_drop_45 : decode cX9_drop 45 = .ok (.getfield 28, 3) := by decide +kernel
theorem dX9_drop_48 : decode cX9_drop 48 = .ok (.iload_n 2, 1) := by decide +kernel
theorem dX9_drop_49 : decode cX9_drop 49 = .ok (.aload_n 0, 1) := by decide +kernel
theorem dX9_drop_50 : decode cX9_drop 50 = .ok (.getfield 28, 3) := by decide +kernel
theorem dX9_drop_53 : decode cX9_drop 53 = .ok (.iload_n 2, 1) := by decide +kernel
theorem dX9_drop_54 : decode cX9_drop 54 = .ok (.bipush 10, 2) := by decide +kernel
theorem dX9_drop_56 : decode cX9_drop 56 = .ok (.iadd, 1) := by decide +kernel
theorem dX9_drop_57 : decode cX9_drop 57 = .ok (.iaload, 1) := by decide +kernel
theorem dX9_drop_58 : decode cX9_drop 58 = .ok (.iastore, 1) := by decide +kernel
theorem dX9_drop_59 : decode cX9_drop 59 = .ok (.iinc 2 1, 3) := by decide +kernel
theorem dX9_drop_62 : decode cX9_drop 62 = .ok (.goto (-32), 3) := by decide +kernel
theorem dX9_drop_65 : decode cX9_drop 65 = .ok (.aload_n 0, 1) := by decide +kernel
theorem dX9_drop_66 : decode cX9_drop 66 = .ok (.invokevirtual 113, 3) := by decide +kernel
theorem dX9_drop_69 : decode cX9_drop 69 = .ok (.aload_n 0, 1) := by decide +kernel
theorem dX9_drop_70 : decode cX9_drop 70 = .ok (.getfield 28, 3) := by decide +kernel
theorem dX9_drop_73 : decode cX9_drop 73 = .ok (.bipush 82, 2) := by decide +kernel
theorem dX9_drop_75 : decode cX9_drop 75 = .ok (.iaload, 1) := by decide +kernel
theorem dX9_drop_76 : decode cX9_drop 76 = .ok (.ireturn, 1) := by decide +kernel
theorem dX9_gain_0 : decode cX9_gain 0 = .ok (.aload_n 0, 1) := by decide +kernel
theorem dX9_gain_1 : decode cX9_gain 1 = .ok (.iload_n 1, 1) := by decide +kernel
theorem dX9_gain_2 : decode cX9_gain 2 = .ok (.iload_n 2, 1) := by decide +kernel
theorem dX9_gain_3 : decode cX9_gain 3 = .ok (.iload_n 3, 1) := by decide +kernel
theorem dX9_gain_4 : decode cX9_gain 4 = .ok (.invokevirtual 153, 3) := by decide +kernel
theorem dX9_gain_7 : decode cX9_gain 7 = .ok (.istore 4, 2) := by decide +kernel
theorem dX9_gain_9 : decode cX9_gain 9 = .ok (.iload 4, 2) := by decide +kernel
theorem dX9_gain_11 : decode cX9_gain 11 = .ok (.ifCond .eq 6, 3) := by decide +kernel
theorem dX9_gain_14 : decode cX9_gain 14 = .ok (.iload 4, 2) := by decide +kernel
theorem dX9_gain_16 : decode cX9_gain 16 = .ok (.ireturn, 1) := by decide +kernel
theorem dX9_gain_17 : decode cX9_gain 17 = .ok (.aload_n 0, 1) := by decide +kernel
theorem dX9_gain_18 : decode cX9_gain 18 = .ok (.iload_n 1, 1) := by decide +kernel
theorem dX9_gain_19 : decode cX9_gain 19 = .ok (.iload_n 2, 1) := by decide +kernel
theorem dX9_gain_20 : decode cX9_gain 20 = .ok (.iload_n 3, 1) := by decide +kernel
theorem dX9_gain_21 : decode cX9_gain 21 = .ok (.invokevirtual 163, 3) := by decide +kernel
theorem dX9_gain_24 : decode cX9_gain 24 = .ok (.istore 5, 2) := by decide +kernel
theorem dX9_gain_26 : decode cX9_gain 26 = .ok (.aload_n 0, 1) := by decide +kernel
theorem dX9_gain_27 : decode cX9_gain 27 = .ok (.invokevirtual 113, 3) := by decide +kernel
theorem dX9_gain_30 : decode cX9_gain 30 = .ok (.iload 5, 2) := by decide +kernel
theorem dX9_gain_32 : decode cX9_gain 32 = .ok (.ldc 166, 2) := by decide +kernel
theorem dX9_gain_34 : decode cX9_gain 34 = .ok (.iadd, 1) := by decide +kernel
theorem dX9_gain_35 : decode cX9_gain 35 = .ok (.ireturn, 1) := by decide +kernel
theorem dX9_chooses_0 : decode cX9_chooses 0 = .ok (.iconst 0, 1) := by decide +kernel
theorem dX9_chooses_1 : decode cX9_chooses 1 = .ok (.istore_n 1, 1) := by decide +kernel
theorem dX9_chooses_2 : decode cX9_chooses 2 = .ok (.iconst 2, 1) := by decide +kernel
theorem dX9_chooses_3 : decode cX9_chooses 3 = .ok (.istore_n 2, 1) := by decide +kernel
theorem dX9_chooses_4 : decode cX9_chooses 4 = .ok (.iload_n 2, 1) := by decide +kernel
theorem dX9_chooses_5 : decode cX9_chooses 5 = .ok (.iconst 5, 1) := by decide +kernel
theorem dX9_chooses_6 : decode cX9_chooses 6 = .ok (.if_icmp .ge 129, 3) := by decide +kernel
theorem dX9_chooses_9 : decode cX9_chooses 9 = .ok (.iconst (-1), 1) := by decide +kernel
theorem dX9_chooses_10 : decode cX9_chooses 10 = .ok (.istore_n 3, 1) := by decide +kernel
theorem dX9_chooses_11 : decode cX9_chooses 11 = .ok (.iload_n 3, 1) := by decide +kernel
theorem dX9_chooses_12 : decode cX9_chooses 12 = .ok (.iload_n 2, 1) := by decide +kernel
theorem dX9_chooses_13 : decode cX9_chooses 13 = .ok (.if_icmp .ge 116, 3) := by decide +kernel
theorem dX9_chooses_16 : decode cX9_chooses 16 = .ok (.iconst 0, 1) := by decide +kernel
theorem dX9_chooses_17 : decode cX9_chooses 17 = .ok (.istore 4, 2) := by decide +kernel
theorem dX9_chooses_19 : decode cX9_chooses 19 = .ok (.iload 4, 2) := by decide +kernel
theorem dX9_chooses_21 : decode cX9_chooses 21 = .ok (.aload_n 0, 1) := by decide +kernel
theorem dX9_chooses_22 : decode cX9_chooses 22 = .ok (.getfield 103, 3) := by decide +kernel
theorem dX9_chooses_25 : decode cX9_chooses 25 = .ok (.if_icmp .ge 98, 3) := by decide +kernel
theorem dX9_chooses_28 : decode cX9_chooses 28 = .ok (.aload_n 0, 1) := by decide +kernel
theorem dX9_chooses_29 : decode cX9_chooses 29 = .ok (.iload 4, 2) := by decide +kernel
theorem dX9_chooses_31 : decode cX9_chooses 31 = .ok (.iload_n 2, 1) := by decide +kernel
theorem dX9_chooses_32 : decode cX9_chooses 32 = .ok (.iload_n 3, 1) := by decide +kernel
theorem dX9_chooses_33 : decode cX9_chooses 33 = .ok (.invokevirtual 153, 3) := by decide +kernel
theorem dX9_chooses_36 : decode cX9_chooses 36 = .ok (.ifCond .ne 81, 3) := by decide +kernel
theorem dX9_chooses_39 : decode cX9_chooses 39 = .ok (.aload_n 0, 1) := by decide +kernel
theorem dX9_chooses_40 : decode cX9_chooses 40 = .ok (.iload 4, 2) := by decide +kernel
theorem dX9_chooses_42 : decode cX9_chooses 42 = .ok (.iload_n 2, 1) := by decide +kernel
theorem dX9_chooses_43 : decode cX9_chooses 43 = .ok (.iload_n 3, 1) := by decide +kernel
theorem dX9_chooses_44 : decode cX9_chooses 44 = .ok (.invokevirtual 163, 3) := by decide +kernel
theorem dX9_chooses_47 : decode cX9_chooses 47 = .ok (.istore 5, 2) := by decide +kernel
theorem dX9_chooses_49 : decode cX9_chooses 49 = .ok (.aload_n 0, 1) := by decide +kernel
theorem dX9_chooses_50 : decode cX9_chooses 50 = .ok (.iload 5, 2) := by decide +kernel
theorem dX9_chooses_52 : decode cX9_chooses 52 = .ok (.iload_n 1, 1) := by decide +kernel
theorem dX9_chooses_53 : decode cX9_chooses 53 = .ok (.if_icmp .le 8, 3) := by decide +kernel
theorem dX9_chooses_56 : decode cX9_chooses 56 = .ok (.iload 4, 2) := by decide +kernel
theorem dX9_chooses_58 : decode cX9_chooses 58 = .ok (.goto 7, 3) := by decide +kernel
theorem dX9_chooses_61 : decode cX9_chooses 61 = .ok (.aload_n 0, 1) := by decide +kernel
theorem dX9_chooses_62 : decode cX9_chooses 62 = .ok (.getfield 167, 3) := by decide +kernel
theorem dX9_chooses_65 : decode cX9_chooses 65 = .ok (.putfield 167, 3) := by decide +kernel
theorem dX9_chooses_68 : decode cX9_chooses 68 = .ok (.aload_n 0, 1) := by decide +kernel
theorem dX9_chooses_69 : decode cX9_chooses 69 = .ok (.iload 5, 2) := by decide +kernel
theorem dX9_chooses_71 : decode cX9_chooses 71 = .ok (.iload_n 1, 1) := by decide +kernel
theorem dX9_chooses_72 : decode cX9_chooses 72 = .ok (.if_icmp .le 7, 3) := by decide +kernel
theorem dX9_chooses_75 : decode cX9_chooses 75 = .ok (.iload_n 2, 1) := by decide +kernel
theorem dX9_chooses_76 : decode cX9_chooses 76 = .ok (.goto 7, 3) := by decide +kernel
theorem dX9_chooses_79 : decode cX9_chooses 79 = .ok (.aload_n 0, 1) := by decide +kernel
theorem dX9_chooses_80 : decode cX9_chooses 80 = .ok (.getfield 170, 3) := by decide +kernel
theorem dX9_chooses_83 : decode cX9_chooses 83 = .ok (.putfield 170, 3) := by decide +kernel
theorem dX9_chooses_86 : decode cX9_chooses 86 = .ok (.aload_n 0, 1) := by decide +kernel
theorem dX9_chooses_87 : decode cX9_chooses 87 = .ok (.iload 5, 2) := by decide +kernel
theorem dX9_chooses_89 : decode cX9_chooses 89 = .ok (.iload_n 1, 1) := by decide +kernel
theorem dX9_chooses_90 : decode cX9_chooses 90 = .ok (.if_icmp .le 7, 3) := by decide +kernel
theorem dX9_chooses_93 : decode cX9_chooses 93 = .ok (.iload_n 3, 1) := by decide +kernel
theorem dX9_chooses_94 : decode cX9_chooses 94 = .ok (.goto 7, 3) := by decide +kernel
theorem dX9_chooses_97 : decode cX9_chooses 97 = .ok (.aload_n 0, 1) := by decide +kernel
theorem dX9_chooses_98 : decode cX9_chooses 98 = .ok (.getfield 173, 3) := by decide +kernel
theorem dX9_chooses_101 : decode cX9_chooses 101 = .ok (.putfield 173, 3) := by decide +kernel
theorem dX9_chooses_104 : decode cX9_chooses 104 = .ok (.iload 5, 2) := by decide +kernel
theorem dX9_chooses_106 : decode cX9_chooses 106 = .ok (.iload_n 1, 1) := by decide +kernel
theorem dX9_chooses_107 : decode cX9_chooses 107 = .ok (.if_icmp .le 8, 3) := by decide +kernel
theorem dX9_chooses_110 : decode cX9_chooses 110 = .ok (.iload 5, 2) := by decide +kernel
theorem dX9_chooses_112 : decode cX9_chooses 112 = .ok (.goto 4, 3) := by decide +kernel
theorem dX9_chooses_115 : decode cX9_chooses 115 = .ok (.iload_n 1, 1) := by decide +kernel
theorem dX9_chooses_116 : decode cX9_chooses 116 = .ok (.istore_n 1, 1) := by decide +kernel
theorem dX9_chooses_117 : decode cX9_chooses 117 = .ok (.iinc 4 1, 3) := by decide +kernel
theorem dX9_chooses_120 : decode cX9_chooses 120 = .ok (.goto (-101), 3) := by decide +kernel
theorem dX9_chooses_123 : decode cX9_chooses 123 = .ok (.iinc 3 1, 3) := by decide +kernel
theorem dX9_chooses_126 : decode cX9_chooses 126 = .ok (.goto (-115), 3) := by decide +kernel
theorem dX9_chooses_129 : decode cX9_chooses 129 = .ok (.iinc 2 1, 3) := by decide +kernel
theorem dX9_chooses_132 : decode cX9_chooses 132 = .ok (.goto (-128), 3) := by decide +kernel
theorem dX9_chooses_135 : decode cX9_chooses 135 = .ok (.aload_n 0, 1) := by decide +kernel
theorem dX9_chooses_136 : decode cX9_chooses 136 = .ok (.invokevirtual 113, 3) := by decide +kernel
theorem dX9_chooses_139 : decode cX9_chooses 139 = .ok (.iload_n 1, 1) := by decide +kernel
theorem dX9_chooses_140 : decode cX9_chooses 140 = .ok (.ifCond .le 7, 3) := by decide +kernel
theorem dX9_chooses_143 : decode cX9_chooses 143 = .ok (.iconst 1, 1) := by decide +kernel
theorem dX9_chooses_144 : decode cX9_chooses 144 = .ok (.goto 4, 3) := by decide +kernel
theorem dX9_chooses_147 : decode cX9_chooses 147 = .ok (.iconst 0, 1) := by decide +kernel
theorem dX9_chooses_148 : decode cX9_chooses 148 = .ok (.ireturn, 1) := by decide +kernel
theorem dX9_choose_0 : decode cX9_choose 0 = .ok (.iload_n 1, 1) := by decide +kernel
theorem dX9_choose_1 : decode cX9_choose 1 = .ok (.i2l, 1) := by decide +kernel
theorem dX9_choose_2 : decode cX9_choose 2 = .ok (.lconst 1, 1) := by decide +kernel
theorem dX9_choose_3 : decode cX9_choose 3 = .ok (.ldc2_w 176, 3) := by decide +kernel
theorem dX9_choose_6 : decode cX9_choose 6 = .ok (.invokestatic 71, 3) := by decide +kernel
theorem dX9_choose_9 : decode cX9_choose 9 = .ok (.ifCond .ne 5, 3) := by decide +kernel
theorem dX9_choose_12 : decode cX9_choose 12 = .ok (.iconst (-1), 1) := by decide +kernel
theorem dX9_choose_13 : decode cX9_choose 13 = .ok (.ireturn, 1) := by decide +kernel
theorem dX9_choose_14 : decode cX9_choose 14 = .ok (.iconst 0, 1) := by decide +kernel
theorem dX9_choose_15 : decode cX9_choose 15 = .ok (.istore_n 2, 1) := by decide +kernel
theorem dX9_choose_16 : decode cX9_choose 16 = .ok (.iload_n 2, 1) := by decide +kernel
theorem dX9_choose_17 : decode cX9_choose 17 = .ok (.iload_n 1, 1) := by decide +kernel
theorem dX9_choose_18 : decode cX9_choose 18 = .ok (.if_icmp .ge 62, 3) := by decide +kernel
theorem dX9_choose_21 : decode cX9_choose 21 = .ok (.aload_n 0, 1) := by decide +kernel
theorem dX9_choose_22 : decode cX9_choose 22 = .ok (.invokevirtual 178, 3) := by decide +kernel
theorem dX9_choose_25 : decode cX9_choose 25 = .ok (.ifCond .eq 55, 3) := by decide +kernel
theorem dX9_choose_28 : decode cX9_choose 28 = .ok (.iload_n 2, 1) := by decide +kernel
theorem dX9_choose_29 : decode cX9_choose 29 = .ok (.ifCond .ne 7, 3) := by decide +kernel
theorem dX9_choose_32 : decode cX9_choose 32 = .ok (.aload_n 0, 1) := by decide +kernel
theorem dX9_choose_33 : decode cX9_choose 33 = .ok (.invokevirtual 157, 3) := by decide +kernel
theorem dX9_choose_36 : decode cX9_choose 36 = .ok (.aload_n 0, 1) := by decide +kernel
theorem dX9_choose_37 : decode cX9_choose 37 = .ok (.aload_n 0, 1) := by decide +kernel
theorem dX9_choose_38 : decode cX9_choose 38 = .ok (.getfield 28, 3) := by decide +kernel
theorem dX9_choose_41 : decode cX9_choose 41 = .ok (.bipush 82, 2) := by decide +kernel
theorem dX9_choose_43 : decode cX9_choose 43 = .ok (.iaload, 1) := by decide +kernel
theorem dX9_choose_44 : decode cX9_choose 44 = .ok (.aload_n 0, 1) := by decide +kernel
theorem dX9_choose_45 : decode cX9_choose 45 = .ok (.getfield 167, 3) := by decide +kernel
theorem dX9_choose_48 : decode cX9_choose 48 = .ok (.aload_n 0, 1) := by decide +kernel
theorem dX9_choose_49 : decode cX9_choose 49 = .ok (.getfield 170, 3) := by decide +kernel
theorem dX9_choose_52 : decode cX9_choose 52 = .ok (.aload_n 0, 1) := by decide +kernel
theorem dX9_choose_53 : decode cX9_choose 53 = .ok (.getfield 173, 3) := by decide +kernel
theorem dX9_choose_56 : decode cX9_choose 56 = .ok (.invokevirtual 123, 3) := by decide +kernel
theorem dX9_choose_59 : decode cX9_choose 59 = .ok (.aload_n 0, 1) := by decide +kernel
theorem dX9_choose_60 : decode cX9_choose 60 = .ok (.getfield 28, 3) := by decide +kernel
theorem dX9_choose_63 : decode cX9_choose 63 = .ok (.bipush 82, 2) := by decide +kernel
theorem dX9_choose_65 : decode cX9_choose 65 = .ok (.dup2, 1) := by decide +kernel
theorem dX9_choose_66 : decode cX9_choose 66 = .ok (.iaload, 1) := by decide +kernel
theorem dX9_choose_67 : decode cX9_choose 67 = .ok (.iconst 1, 1) := by decide +kernel
theorem dX9_choose_68 : decode cX9_choose 68 = .ok (.iadd, 1) := by decide +kernel
theorem dX9_choose_69 : decode cX9_choose 69 = .ok (.iastore, 1) := by decide +kernel
theorem dX9_choose_70 : decode cX9_choose 70 = .ok (.aload_n 0, 1) := by decide +kernel
theorem dX9_choose_71 : decode cX9_choose 71 = .ok (.invokevirtual 113, 3) := by decide +kernel
theorem dX9_choose_74 : decode cX9_choose 74 = .ok (.iinc 2 1, 3) := by decide +kernel
theorem dX9_choose_77 : decode cX9_choose 77 = .ok (.goto (-61), 3) := by decide +kernel
theorem dX9_choose_80 : decode cX9_choose 80 = .ok (.iload_n 2, 1) := by decide +kernel
theorem dX9_choose_81 : decode cX9_choose 81 = .ok (.ifCond .ne 8, 3) := by decide +kernel
theorem dX9_choose_84 : decode cX9_choose 84 = .ok (.bipush (-2), 2) := by decide +kernel
theorem dX9_choose_86 : decode cX9_choose 86 = .ok (.goto 4, 3) := by decide +kernel
theorem dX9_choose_89 : decode cX9_choose 89 = .ok (.iload_n 2, 1) := by decide +kernel
theorem dX9_choose_90 : decode cX9_choose 90 = .ok (.ireturn, 1) := by decide +kernel
theorem dX9_entry_0 : decode cX9_entry 0 = .ok (.aload_n 0, 1) := by decide +kernel
theorem dX9_entry_1 : decode cX9_entry 1 = .ok (.iload_n 1, 1) := by decide +kernel
theorem dX9_entry_2 : decode cX9_entry 2 = .ok (.invokevirtual 160, 3) := by decide +kernel
theorem dX9_entry_5 : decode cX9_entry 5 = .ok (.ifCond .eq 15, 3) := by decide +kernel
theorem dX9_entry_8 : decode cX9_entry 8 = .ok (.iload_n 2, 1) := by decide +kernel
theorem dX9_entry_9 : decode cX9_entry 9 = .ok (.i2l, 1) := by decide +kernel
theorem dX9_entry_10 : decode cX9_entry 10 = .ok (.lconst 0, 1) := by decide +kernel
theorem dX9_entry_11 : decode cX9_entry 11 = .ok (.ldc2_w 182, 3) := by decide +kernel
theorem dX9_entry_14 : decode cX9_entry 14 = .ok (.invokestatic 71, 3) := by decide +kernel
theorem dX9_entry_17 : decode cX9_entry 17 = .ok (.ifCond .ne 5, 3) := by decide +kernel
theorem dX9_entry_20 : decode cX9_entry 20 = .ok (.iconst (-1), 1) := by decide +kernel
theorem dX9_entry_21 : decode cX9_entry 21 = .ok (.ireturn, 1) := by decide +kernel
theorem dX9_entry_22 : decode cX9_entry 22 = .ok (.iload_n 2, 1) := by decide +kernel
theorem dX9_entry_23 : decode cX9_entry 23 = .ok (.iconst 2, 1) := by decide +kernel
theorem dX9_entry_24 : decode cX9_entry 24 = .ok (.if_icmp .ge 15, 3) := by decide +kernel
theorem dX9_entry_27 : decode cX9_entry 27 = .ok (.aload_n 0, 1) := by decide +kernel
theorem dX9_entry_28 : decode cX9_entry 28 = .ok (.getfield 28, 3) := by decide +kernel
theorem dX9_entry_31 : decode cX9_entry 31 = .ok (.bipush 10, 2) := by decide +kernel
theorem dX9_entry_33 : decode cX9_entry 33 = .ok (.iload_n 1, 1) := by decide +kernel
theorem dX9_entry_34 : decode cX9_entry 34 = .ok (.imul, 1) := by decide +kernel
theorem dX9_entry_35 : decode cX9_entry 35 = .ok (.iload_n 2, 1) := by decide +kernel
theorem dX9_entry_36 : decode cX9_entry 36 = .ok (.iadd, 1) := by decide +kernel
theorem dX9_entry_37 : decode cX9_entry 37 = .ok (.iaload, 1) := by decide +kernel
theorem dX9_entry_38 : decode cX9_entry 38 = .ok (.ireturn, 1) := by decide +kernel
theorem dX9_entry_39 : decode cX9_entry 39 = .ok (.iconst 0, 1) := by decide +kernel
theorem dX9_entry_40 : decode cX9_entry 40 = .ok (.istore_n 3, 1) := by decide +kernel
theorem dX9_entry_41 : decode cX9_entry 41 = .ok (.iconst 0, 1) := by decide +kernel
theorem dX9_entry_42 : decode cX9_entry 42 = .ok (.istore 4, 2) := by decide +kernel
theorem dX9_entry_44 : decode cX9_entry 44 = .ok (.iconst 0, 1) := by decide +kernel
theorem dX9_entry_45 : decode cX9_entry 45 = .ok (.istore 5, 2) := by decide +kernel
theorem dX9_entry_47 : decode cX9_entry 47 = .ok (.iload 5, 2) := by decide +kernel
theorem dX9_entry_49 : decode cX9_entry 49 = .ok (.aload_n 0, 1) := by decide +kernel
theorem dX9_entry_50 : decode cX9_entry 50 = .ok (.getfield 103, 3) := by decide +kernel
theorem dX9_entry_53 : decode cX9_entry 53 = .ok (.if_icmp .ge 60, 3) := by decide +kernel
theorem dX9_entry_56 : decode cX9_entry 56 = .ok (.iload_n 3, 1) := by decide +kernel
theorem dX9_entry_57 : decode cX9_entry 57 = .ok (.aload_n 0, 1) := by decide +kernel
theorem dX9_entry_58 : decode cX9_entry 58 = .ok (.getfield 37, 3) := by decide +kernel
theorem dX9_entry_61 : decode cX9_entry 61 = .ok (.iload 5, 2) := by decide +kernel
theorem dX9_entry_63 : decode cX9_entry 63 = .ok (.iaload, 1) := by decide +kernel
theorem dX9_entry_64 : decode cX9_entry 64 = .ok (.iload_n 1, 1) := by decide +kernel
theorem dX9_entry_65 : decode cX9_entry 65 = .ok (.if_icmp .ne 19, 3) := by decide +kernel
theorem dX9_entry_68 : decode cX9_entry 68 = .ok (.aload_n 0, 1) := by decide +kernel
theorem dX9_entry_69 : decode cX9_entry 69 = .ok (.getfield 40, 3) := by decide +kernel
theorem dX9_entry_72 : decode cX9_entry 72 = .ok (.iload 5, 2) := by decide +kernel
theorem dX9_entry_74 : decode cX9_entry 74 = .ok (.iaload, 1) := by decide +kernel
theorem dX9_entry_75 : decode cX9_entry 75 = .ok (.bipush (-4), 2) := by decide +kernel
theorem dX9_entry_77 : decode cX9_entry 77 = .ok (.if_icmp .eq 7, 3) := by decide +kernel
theorem dX9_entry_80 : decode cX9_entry 80 = .ok (.iconst 1, 1) := by decide +kernel
theorem dX9_entry_81 : decode cX9_entry 81 = .ok (.goto 4, 3) := by decide +kernel
theorem dX9_entry_84 : decode cX9_entry 84 = .ok (.iconst 0, 1) := by decide +kernel
theorem dX9_entry_85 : decode cX9_entry 85 = .ok (.iadd, 1) := by decide +kernel
theorem dX9_entry_86 : decode cX9_entry 86 = .ok (.istore_n 3, 1) := by decide +kernel
theorem dX9_entry_87 : decode cX9_entry 87 = .ok (.iload 4, 2) := by decide +kernel
theorem dX9_entry_89 : decode cX9_entry 89 = .ok (.aload_n 0, 1) := by decide +kernel
theorem dX9_entry_90 : decode cX9_entry 90 = .ok (.iload 5, 2) := by decide +kernel
theorem dX9_entry_92 : decode cX9_entry 92 = .ok (.iload_n 1, 1) := by decide +kernel
theorem dX9_entry_93 : decode cX9_entry 93 = .ok (.invokevirtual 130, 3) := by decide +kernel
theorem dX9_entry_96 : decode cX9_entry 96 = .ok (.ifCond .eq 7, 3) := by decide +kernel
theorem dX9_entry_99 : decode cX9_entry 99 = .ok (.iconst 1, 1) := by decide +kernel
theorem dX9_entry_100 : decode cX9_entry 100 = .ok (.goto 4, 3) := by decide +kernel
theorem dX9_entry_103 : decode cX9_entry 103 = .ok (.iconst 0, 1) := by decide +kernel
theorem dX9_entry_104 : decode cX9_entry 104 = .ok (.iadd, 1) := by decide +kernel
theorem dX9_entry_105 : decode cX9_entry 105 = .ok (.istore 4, 2) := by decide +kernel
theorem dX9_entry_107 : decode cX9_entry 107 = .ok (.iinc 5 1, 3) := by decide +kernel
theorem dX9_entry_110 : decode cX9_entry 110 = .ok (.goto (-63), 3) := by decide +kernel
theorem dX9_entry_113 : decode cX9_entry 113 = .ok (.iload_n 2, 1) := by decide +kernel
theorem dX9_entry_114 : decode cX9_entry 114 = .ok (.iconst 2, 1) := by decide +kernel
theorem dX9_entry_115 : decode cX9_entry 115 = .ok (.if_icmp .ne 7, 3) := by decide +kernel
theorem dX9_entry_118 : decode cX9_entry 118 = .ok (.iload_n 3, 1) := by decide +kernel
theorem dX9_entry_119 : decode cX9_entry 119 = .ok (.goto 5, 3) := by decide +kernel
theorem dX9_entry_122 : decode cX9_entry 122 = .ok (.iload 4, 2) := by decide +kernel
theorem dX9_entry_124 : decode cX9_entry 124 = .ok (.ireturn, 1) := by decide +kernel
theorem dX9_part_0 : decode cX9_part 0 = .ok (.aload_n 0, 1) := by decide +kernel
theorem dX9_part_1 : decode cX9_part 1 = .ok (.iload_n 1, 1) := by decide +kernel
theorem dX9_part_2 : decode cX9_part 2 = .ok (.invokevirtual 160, 3) := by decide +kernel
theorem dX9_part_5 : decode cX9_part 5 = .ok (.ifCond .eq 17, 3) := by decide +kernel
theorem dX9_part_8 : decode cX9_part 8 = .ok (.iload_n 2, 1) := by decide +kernel
theorem dX9_part_9 : decode cX9_part 9 = .ok (.ifCond .lt 13, 3) := by decide +kernel
theorem dX9_part_12 : decode cX9_part 12 = .ok (.iload_n 3, 1) := by decide +kernel
theorem dX9_part_13 : decode cX9_part 13 = .ok (.i2l, 1) := by decide +kernel
theorem dX9_part_14 : decode cX9_part 14 = .ok (.lconst 0, 1) := by decide +kernel
theorem dX9_part_15 : decode cX9_part 15 = .ok (.lconst 1, 1) := by decide +kernel
theorem dX9_part_16 : decode cX9_part 16 = .ok (.invokestatic 71, 3) := by decide +kernel
theorem dX9_part_19 : decode cX9_part 19 = .ok (.ifCond .ne 5, 3) := by decide +kernel
theorem dX9_part_22 : decode cX9_part 22 = .ok (.iconst (-1), 1) := by decide +kernel
theorem dX9_part_23 : decode cX9_part 23 = .ok (.ireturn, 1) := by decide +kernel
theorem dX9_part_24 : decode cX9_part 24 = .ok (.iload_n 2, 1) := by decide +kernel
theorem dX9_part_25 : decode cX9_part 25 = .ok (.aload_n 0, 1) := by decide +kernel
theorem dX9_part_26 : decode cX9_part 26 = .ok (.getfield 28, 3) := by decide +kernel
theorem dX9_part_29 : decode cX9_part 29 = .ok (.bipush 10, 2) := by decide +kernel
theorem dX9_part_31 : decode cX9_part 31 = .ok (.iload_n 1, 1) := by decide +kernel
theorem dX9_part_32 : decode cX9_part 32 = .ok (.imul, 1) := by decide +kernel
theorem dX9_part_33 : decode cX9_part 33 = .ok (.iaload, 1) := by decide +kernel
theorem dX9_part_34 : decode cX9_part 34 = .ok (.if_icmp .lt 8, 3) := by decide +kernel
theorem dX9_part_37 : decode cX9_part 37 = .ok (.bipush (-4), 2) := by decide +kernel
theorem dX9_part_39 : decode cX9_part 39 = .ok (.goto 25, 3) := by decide +kernel
theorem dX9_part_42 : decode cX9_part 42 = .ok (.aload_n 0, 1) := by decide +kernel
theorem dX9_part_43 : decode cX9_part 43 = .ok (.getfield 28, 3) := by decide +kernel
theorem dX9_part_46 : decode cX9_part 46 = .ok (.bipush 10, 2) := by decide +kernel
theorem dX9_part_48 : decode cX9_part 48 = .ok (.iload_n 1, 1) := by decide +kernel
theorem dX9_part_49 : decode cX9_part 49 = .ok (.imul, 1) := by decide +kernel
theorem dX9_part_50 : decode cX9_part 50 = .ok (.iload_n 3, 1) := by decide +kernel
theorem dX9_part_51 : decode cX9_part 51 = .ok (.ifCond .ne 7, 3) := by decide +kernel
theorem dX9_part_54 : decode cX9_part 54 = .ok (.iconst 2, 1) := by decide +kernel
theorem dX9_part_55 : decode cX9_part 55 = .ok (.goto 5, 3) := by decide +kernel
theorem dX9_part_58 : decode cX9_part 58 = .ok (.bipush 6, 2) := by decide +kernel
theorem dX9_part_60 : decode cX9_part 60 = .ok (.iadd, 1) := by decide +kernel
theorem dX9_part_61 : decode cX9_part 61 = .ok (.iload_n 2, 1) := by decide +kernel
theorem dX9_part_62 : decode cX9_part 62 = .ok (.iadd, 1) := by decide +kernel
theorem dX9_part_63 : decode cX9_part 63 = .ok (.iaload, 1) := by decide +kernel
theorem dX9_part_64 : decode cX9_part 64 = .ok (.ireturn, 1) := by decide +kernel
theorem dX9_wide_0 : decode cX9_wide 0 = .ok (.iload_n 1, 1) := by decide +kernel
theorem dX9_wide_1 : decode cX9_wide 1 = .ok (.iconst 4, 1) := by decide +kernel
theorem dX9_wide_2 : decode cX9_wide 2 = .ok (.if_icmp .eq 17, 3) := by decide +kernel
theorem dX9_wide_5 : decode cX9_wide 5 = .ok (.iload_n 1, 1) := by decide +kernel
theorem dX9_wide_6 : decode cX9_wide 6 = .ok (.bipush 8, 2) := by decide +kernel
theorem dX9_wide_8 : decode cX9_wide 8 = .ok (.if_icmp .eq 11, 3) := by decide +kernel
theorem dX9_wide_11 : decode cX9_wide 11 = .ok (.iload_n 1, 1) := by decide +kernel
theorem dX9_wide_12 : decode cX9_wide 12 = .ok (.bipush 16, 2) := by decide +kernel
theorem dX9_wide_14 : decode cX9_wide 14 = .ok (.if_icmp .eq 5, 3) := by decide +kernel
theorem dX9_wide_17 : decode cX9_wide 17 = .ok (.iconst (-1), 1) := by decide +kernel
theorem dX9_wide_18 : decode cX9_wide 18 = .ok (.ireturn, 1) := by decide +kernel
theorem dX9_wide_19 : decode cX9_wide 19 = .ok (.aload_n 0, 1) := by decide +kernel
theorem dX9_wide_20 : decode cX9_wide 20 = .ok (.getfield 28, 3) := by decide +kernel
theorem dX9_wide_23 : decode cX9_wide 23 = .ok (.bipush 80, 2) := by decide +kernel
theorem dX9_wide_25 : decode cX9_wide 25 = .ok (.iaload, 1) := by decide +kernel
theorem dX9_wide_26 : decode cX9_wide 26 = .ok (.istore_n 2, 1) := by decide +kernel
theorem dX9_wide_27 : decode cX9_wide 27 = .ok (.iload_n 2, 1) := by decide +kernel
theorem dX9_wide_28 : decode cX9_wide 28 = .ok (.iload_n 1, 1) := by decide +kernel
theorem dX9_wide_29 : decode cX9_wide 29 = .ok (.if_icmp .ne 6, 3) := by decide +kernel
theorem dX9_wide_32 : decode cX9_wide 32 = .ok (.bipush (-2), 2) := by decide +kernel
theorem dX9_wide_34 : decode cX9_wide 34 = .ok (.ireturn, 1) := by decide +kernel
theorem dX9_wide_35 : decode cX9_wide 35 = .ok (.aload_n 0, 1) := by decide +kernel
theorem dX9_wide_36 : decode cX9_wide 36 = .ok (.invokevirtual 157, 3) := by decide +kernel
theorem dX9_wide_39 : decode cX9_wide 39 = .ok (.aload_n 0, 1) := by decide +kernel
theorem dX9_wide_40 : decode cX9_wide 40 = .ok (.getfield 28, 3) := by decide +kernel
theorem dX9_wide_43 : decode cX9_wide 43 = .ok (.bipush 80, 2) := by decide +kernel
theorem dX9_wide_45 : decode cX9_wide 45 = .ok (.iload_n 1, 1) := by decide +kernel
theorem dX9_wide_46 : decode cX9_wide 46 = .ok (.iastore, 1) := by decide +kernel
theorem dX9_wide_47 : decode cX9_wide 47 = .ok (.aload_n 0, 1) := by decide +kernel
theorem dX9_wide_48 : decode cX9_wide 48 = .ok (.invokevirtual 113, 3) := by decide +kernel
theorem dX9_wide_51 : decode cX9_wide 51 = .ok (.iload_n 2, 1) := by decide +kernel
theorem dX9_wide_52 : decode cX9_wide 52 = .ok (.ireturn, 1) := by decide +kernel
theorem dX9_hold_0 : decode cX9_hold 0 = .ok (.iload_n 1, 1) := by decide +kernel
theorem dX9_hold_1 : decode cX9_hold 1 = .ok (.i2l, 1) := by decide +kernel
theorem dX9_hold_2 : decode cX9_hold 2 = .ok (.lconst 1, 1) := by decide +kernel
theorem dX9_hold_3 : decode cX9_hold 3 = .ok (.ldc2_w 145, 3) := by decide +kernel
theorem dX9_hold_6 : decode cX9_hold 6 = .ok (.invokestatic 71, 3) := by decide +kernel
theorem dX9_hold_9 : decode cX9_hold 9 = .ok (.ifCond .ne 5, 3) := by decide +kernel
theorem dX9_hold_12 : decode cX9_hold 12 = .ok (.iconst (-1), 1) := by decide +kernel
theorem dX9_hold_13 : decode cX9_hold 13 = .ok (.ireturn, 1) := by decide +kernel
theorem dX9_hold_14 : decode cX9_hold 14 = .ok (.aload_n 0, 1) := by decide +kernel
theorem dX9_hold_15 : decode cX9_hold 15 = .ok (.getfield 28, 3) := by decide +kernel
theorem dX9_hold_18 : decode cX9_hold 18 = .ok (.bipush 81, 2) := by decide +kernel
theorem dX9_hold_20 : decode cX9_hold 20 = .ok (.iaload, 1) := by decide +kernel
theorem dX9_hold_21 : decode cX9_hold 21 = .ok (.istore_n 2, 1) := by decide +kernel
theorem dX9_hold_22 : decode cX9_hold 22 = .ok (.iload_n 2, 1) := by decide +kernel
theorem dX9_hold_23 : decode cX9_hold 23 = .ok (.iload_n 1, 1) := by decide +kernel
theorem dX9_hold_24 : decode cX9_hold 24 = .ok (.if_icmp .ne 6, 3) := by decide +kernel
theorem dX9_hold_27 : decode cX9_hold 27 = .ok (.bipush (-2), 2) := by decide +kernel
theorem dX9_hold_29 : decode cX9_hold 29 = .ok (.ireturn, 1) := by decide +kernel
theorem dX9_hold_30 : decode cX9_hold 30 = .ok (.aload_n 0, 1) := by decide +kernel
theorem dX9_hold_31 : decode cX9_hold 31 = .ok (.invokevirtual 157, 3) := by decide +kernel
theorem dX9_hold_34 : decode cX9_hold 34 = .ok (.aload_n 0, 1) := by decide +kernel
theorem dX9_hold_35 : decode cX9_hold 35 = .ok (.getfield 28, 3) := by decide +kernel
theorem dX9_hold_38 : decode cX9_hold 38 = .ok (.bipush 81, 2) := by decide +kernel
theorem dX9_hold_40 : decode cX9_hold 40 = .ok (.iload_n 1, 1) := by decide +kernel
theorem dX9_hold_41 : decode cX9_hold 41 = .ok (.iastore, 1) := by decide +kernel
theorem dX9_hold_42 : decode cX9_hold 42 = .ok (.iload_n 2, 1) := by decide +kernel
theorem dX9_hold_43 : decode cX9_hold 43 = .ok (.ireturn, 1) := by decide +kernel
theorem dX9_undo_0 : decode cX9_undo 0 = .ok (.aload_n 0, 1) := by decide +kernel
theorem dX9_undo_1 : decode cX9_undo 1 = .ok (.getfield 106, 3) := by decide +kernel
theorem dX9_undo_4 : decode cX9_undo 4 = .ok (.ifCond .ne 6, 3) := by decide +kernel
theorem dX9_undo_7 : decode cX9_undo 7 = .ok (.bipush (-2), 2) := by decide +kernel
theorem dX9_undo_9 : decode cX9_undo 9 = .ok (.ireturn, 1) := by decide +kernel
theorem dX9_undo_10 : decode cX9_undo 10 = .ok (.aload_n 0, 1) := by decide +kernel
theorem dX9_undo_11 : decode cX9_undo 11 = .ok (.dup, 1) := by decide +kernel
theorem dX9_undo_12 : decode cX9_undo 12 = .ok (.getfield 106, 3) := by decide +kernel
theorem dX9_undo_15 : decode cX9_undo 15 = .ok (.iconst 1, 1) := by decide +kernel
theorem dX9_undo_16 : decode cX9_undo 16 = .ok (.isub, 1) := by decide +kernel
theorem dX9_undo_17 : decode cX9_undo 17 = .ok (.putfield 106, 3) := by decide +kernel
theorem dX9_undo_20 : decode cX9_undo 20 = .ok (.iconst 0, 1) := by decide +kernel
theorem dX9_undo_21 : decode cX9_undo 21 = .ok (.istore_n 1, 1) := by decide +kernel
theorem dX9_undo_22 : decode cX9_undo 22 = .ok (.iload_n 1, 1) := by decide +kernel
theorem dX9_undo_23 : decode cX9_undo 23 = .ok (.bipush 83, 2) := by decide +kernel
theorem dX9_undo_25 : decode cX9_undo 25 = .ok (.if_icmp .ge 29, 3) := by decide +kernel
theorem dX9_undo_28 : decode cX9_undo 28 = .ok (.aload_n 0, 1) := by decide +kernel
theorem dX9_undo_29 : decode cX9_undo 29 = .ok (.getfield 28, 3) := by decide +kernel
theorem dX9_undo_32 : decode cX9_undo 32 = .ok (.iload_n 1, 1) := by decide +kernel
theorem dX9_undo_33 : decode cX9_undo 33 = .ok (.aload_n 0, 1) := by decide +kernel
theorem dX9_undo_34 : decode cX9_undo 34 = .ok (.getfield 31, 3) := by decide +kernel
theorem dX9_undo_37 : decode cX9_undo 37 = .ok (.bipush 83, 2) := by decide +kernel
theorem dX9_undo_39 : decode cX9_undo 39 = .ok (.aload_n 0, 1) := by decide +kernel
theorem dX9_undo_40 : decode cX9_undo 40 = .ok (.getfield 106, 3) := by decide +kernel
theorem dX9_undo_43 : decode cX9_undo 43 = .ok (.imul, 1) := by decide +kernel
theorem dX9_undo_44 : decode cX9_undo 44 = .ok (.iload_n 1, 1) := by decide +kernel
theorem dX9_undo_45 : decode cX9_undo 45 = .ok (.iadd, 1) := by decide +kernel
theorem dX9_undo_46 : decode cX9_undo 46 = .ok (.iaload, 1) := by decide +kernel
theorem dX9_undo_47 : decode cX9_undo 47 = .ok (.iastore, 1) := by decide +kernel
theorem dX9_undo_48 : decode cX9_undo 48 = .ok (.iinc 1 1, 3) := by decide +kernel
theorem dX9_undo_51 : decode cX9_undo 51 = .ok (.goto (-29), 3) := by decide +kernel
theorem dX9_undo_54 : decode cX9_undo 54 = .ok (.aload_n 0, 1) := by decide +kernel
theorem dX9_undo_55 : decode cX9_undo 55 = .ok (.iconst 0, 1) := by decide +kernel
theorem dX9_undo_56 : decode cX9_undo 56 = .ok (.putfield 109, 3) := by decide +kernel
theorem dX9_undo_59 : decode cX9_undo 59 = .ok (.aload_n 0, 1) := by decide +kernel
theorem dX9_undo_60 : decode cX9_undo 60 = .ok (.invokevirtual 113, 3) := by decide +kernel
theorem dX9_undo_63 : decode cX9_undo 63 = .ok (.aload_n 0, 1) := by decide +kernel
theorem dX9_undo_64 : decode cX9_undo 64 = .ok (.getfield 106, 3) := by decide +kernel
theorem dX9_undo_67 : decode cX9_undo 67 = .ok (.ireturn, 1) := by decide +kernel
theorem dX9_code_0 : decode cX9_code 0 = .ok (.aload_n 0, 1) := by decide +kernel
theorem dX9_code_1 : decode cX9_code 1 = .ok (.iload_n 1, 1) := by decide +kernel
theorem dX9_code_2 : decode cX9_code 2 = .ok (.invokevirtual 140, 3) := by decide +kernel
theorem dX9_code_5 : decode cX9_code 5 = .ok (.ifCond .eq 15, 3) := by decide +kernel
theorem dX9_code_8 : decode cX9_code 8 = .ok (.iload_n 2, 1) := by decide +kernel
theorem dX9_code_9 : decode cX9_code 9 = .ok (.i2l, 1) := by decide +kernel
theorem dX9_code_10 : decode cX9_code 10 = .ok (.lconst 0, 1) := by decide +kernel
theorem dX9_code_11 : decode cX9_code 11 = .ok (.ldc2_w 145, 3) := by decide +kernel
theorem dX9_code_14 : decode cX9_code 14 = .ok (.invokestatic 71, 3) := by decide +kernel
theorem dX9_code_17 : decode cX9_code 17 = .ok (.ifCond .ne 5, 3) := by decide +kernel
theorem dX9_code_20 : decode cX9_code 20 = .ok (.iconst (-1), 1) := by decide +kernel
theorem dX9_code_21 : decode cX9_code 21 = .ok (.ireturn, 1) := by decide +kernel
theorem dX9_code_22 : decode cX9_code 22 = .ok (.iload_n 2, 1) := by decide +kernel
theorem dX9_code_23 : decode cX9_code 23 = .ok (.tableswitch 57 0 3 #[29, 36, 43, 50], 29) := by decide +kernel
theorem dX9_code_52 : decode cX9_code 52 = .ok (.aload_n 0, 1) := by decide +kernel
theorem dX9_code_53 : decode cX9_code 53 = .ok (.getfield 19, 3) := by decide +kernel
theorem dX9_code_56 : decode cX9_code 56 = .ok (.iload_n 1, 1) := by decide +kernel
theorem dX9_code_57 : decode cX9_code 57 = .ok (.iaload, 1) := by decide +kernel
theorem dX9_code_58 : decode cX9_code 58 = .ok (.ireturn, 1) := by decide +kernel
theorem dX9_code_59 : decode cX9_code 59 = .ok (.aload_n 0, 1) := by decide +kernel
theorem dX9_code_60 : decode cX9_code 60 = .ok (.getfield 22, 3) := by decide +kernel
theorem dX9_code_63 : decode cX9_code 63 = .ok (.iload_n 1, 1) := by decide +kernel
theorem dX9_code_64 : decode cX9_code 64 = .ok (.iaload, 1) := by decide +kernel
theorem dX9_code_65 : decode cX9_code 65 = .ok (.ireturn, 1) := by decide +kernel
theorem dX9_code_66 : decode cX9_code 66 = .ok (.aload_n 0, 1) := by decide +kernel
theorem dX9_code_67 : decode cX9_code 67 = .ok (.getfield 25, 3) := by decide +kernel
theorem dX9_code_70 : decode cX9_code 70 = .ok (.iload_n 1, 1) := by decide +kernel
theorem dX9_code_71 : decode cX9_code 71 = .ok (.iaload, 1) := by decide +kernel
theorem dX9_code_72 : decode cX9_code 72 = .ok (.ireturn, 1) := by decide +kernel
theorem dX9_code_73 : decode cX9_code 73 = .ok (.aload_n 0, 1) := by decide +kernel
theorem dX9_code_74 : decode cX9_code 74 = .ok (.getfield 37, 3) := by decide +kernel
theorem dX9_code_77 : decode cX9_code 77 = .ok (.iload_n 1, 1) := by decide +kernel
theorem dX9_code_78 : decode cX9_code 78 = .ok (.iaload, 1) := by decide +kernel
theorem dX9_code_79 : decode cX9_code 79 = .ok (.ireturn, 1) := by decide +kernel
theorem dX9_code_80 : decode cX9_code 80 = .ok (.aload_n 0, 1) := by decide +kernel
theorem dX9_code_81 : decode cX9_code 81 = .ok (.getfield 37, 3) := by decide +kernel
theorem dX9_code_84 : decode cX9_code 84 = .ok (.iload_n 1, 1) := by decide +kernel
theorem dX9_code_85 : decode cX9_code 85 = .ok (.iaload, 1) := by decide +kernel
theorem dX9_code_86 : decode cX9_code 86 = .ok (.bipush (-4), 2) := by decide +kernel
theorem dX9_code_88 : decode cX9_code 88 = .ok (.if_icmp .ne 8, 3) := by decide +kernel
theorem dX9_code_91 : decode cX9_code 91 = .ok (.bipush (-4), 2) := by decide +kernel
theorem dX9_code_93 : decode cX9_code 93 = .ok (.goto 10, 3) := by decide +kernel
theorem dX9_code_96 : decode cX9_code 96 = .ok (.iload_n 1, 1) := by decide +kernel
theorem dX9_code_97 : decode cX9_code 97 = .ok (.aload_n 0, 1) := by decide +kernel
theorem dX9_code_98 : decode cX9_code 98 = .ok (.iload_n 1, 1) := by decide +kernel
theorem dX9_code_99 : decode cX9_code 99 = .ok (.invokevirtual 184, 3) := by decide +kernel
theorem dX9_code_102 : decode cX9_code 102 = .ok (.isub, 1) := by decide +kernel
theorem dX9_code_103 : decode cX9_code 103 = .ok (.ireturn, 1) := by decide +kernel
theorem dX9_headOf_0 : decode cX9_headOf 0 = .ok (.iload_n 1, 1) := by decide +kernel
theorem dX9_headOf_1 : decode cX9_headOf 1 = .ok (.istore_n 2, 1) := by decide +kernel
theorem dX9_headOf_2 : decode cX9_headOf 2 = .ok (.aload_n 0, 1) := by decide +kernel
theorem dX9_headOf_3 : decode cX9_headOf 3 = .ok (.getfield 40, 3) := by decide +kernel
theorem dX9_headOf_6 : decode cX9_headOf 6 = .ok (.iload_n 2, 1) := by decide +kernel
theorem dX9_headOf_7 : decode cX9_headOf 7 = .ok (.iaload, 1) := by decide +kernel
theorem dX9_headOf_8 : decode cX9_headOf 8 = .ok (.bipush (-4), 2) := by decide +kernel
theorem dX9_headOf_10 : decode cX9_headOf 10 = .ok (.if_icmp .ne 9, 3) := by decide +kernel
theorem dX9_headOf_13 : decode cX9_headOf 13 = .ok (.iinc 2 (-1), 3) := by decide +kernel
theorem dX9_headOf_16 : decode cX9_headOf 16 = .ok (.goto (-14), 3) := by decide +kernel
theorem dX9_headOf_19 : decode cX9_headOf 19 = .ok (.iload_n 2, 1) := by decide +kernel
theorem dX9_headOf_20 : decode cX9_headOf 20 = .ok (.ireturn, 1) := by decide +kernel
theorem dX9_references_0 : decode cX9_references 0 = .ok (.iconst 0, 1) := by decide +kernel
theorem dX9_references_1 : decode cX9_references 1 = .ok (.istore_n 3, 1) := by decide +kernel
theorem dX9_references_2 : decode cX9_references 2 = .ok (.iload_n 1, 1) := by decide +kernel
theorem dX9_references_3 : decode cX9_references 3 = .ok (.istore 4, 2) := by decide +kernel
theorem dX9_references_5 : decode cX9_references 5 = .ok (.iload 4, 2) := by decide +kernel
theorem dX9_references_7 : decode cX9_references 7 = .ok (.iload_n 2, 1) := by decide +kernel
theorem dX9_references_8 : decode cX9_references 8 = .ok (.if_icmp .ge 41, 3) := by decide +kernel
theorem dX9_references_11 : decode cX9_references 11 = .ok (.iload_n 3, 1) := by decide +kernel
theorem dX9_references_12 : decode cX9_references 12 = .ok (.aload_n 0, 1) := by decide +kernel
theorem dX9_references_13 : decode cX9_references 13 = .ok (.getfield 37, 3) := by decide +kernel
theorem dX9_references_16 : decode cX9_references 16 = .ok (.iload 4, 2) := by decide +kernel
theorem dX9_references_18 : decode cX9_references 18 = .ok (.iaload, 1) := by decide +kernel
theorem dX9_references_19 : decode cX9_references 19 = .ok (.bipush (-4), 2) := by decide +kernel
theorem dX9_references_21 : decode cX9_references 21 = .ok (.if_icmp .eq 19, 3) := by decide +kernel
theorem dX9_references_24 : decode cX9_references 24 = .ok (.aload_n 0, 1) := by decide +kernel
theorem dX9_references_25 : decode cX9_references 25 = .ok (.getfield 40, 3) := by decide +kernel
theorem dX9_references_28 : decode cX9_references 28 = .ok (.iload 4, 2) := by decide +kernel
theorem dX9_references_30 : decode cX9_references 30 = .ok (.iaload, 1) := by decide +kernel
theorem dX9_references_31 : decode cX9_references 31 = .ok (.bipush (-4), 2) := by decide +kernel
theorem dX9_references_33 : decode cX9_references 33 = .ok (.if_icmp .eq 7, 3) := by decide +kernel
theorem dX9_references_36 : decode cX9_references 36 = .ok (.iconst 1, 1) := by decide +kernel
theorem dX9_references_37 : decode cX9_references 37 = .ok (.goto 4, 3) := by decide +kernel
theorem dX9_references_40 : decode cX9_references 40 = .ok (.iconst 0, 1) := by decide +kernel
theorem dX9_references_41 : decode cX9_references 41 = .ok (.iadd, 1) := by decide +kernel
theorem dX9_references_42 : decode cX9_references 42 = .ok (.istore_n 3, 1) := by decide +kernel
theorem dX9_references_43 : decode cX9_references 43 = .ok (.iinc 4 1, 3) := by decide +kernel
theorem dX9_references_46 : decode cX9_references 46 = .ok (.goto (-41), 3) := by decide +kernel
theorem dX9_references_49 : decode cX9_references 49 = .ok (.iload_n 3, 1) := by decide +kernel
theorem dX9_references_50 : decode cX9_references 50 = .ok (.ireturn, 1) := by decide +kernel
theorem dX9_size_0 : decode cX9_size 0 = .ok (.iload_n 1, 1) := by decide +kernel
theorem dX9_size_1 : decode cX9_size 1 = .ok (.i2l, 1) := by decide +kernel
theorem dX9_size_2 : decode cX9_size 2 = .ok (.lconst 0, 1) := by decide +kernel
theorem dX9_size_3 : decode cX9_size 3 = .ok (.ldc2_w 187, 3) := by decide +kernel
theorem dX9_size_6 : decode cX9_size 6 = .ok (.invokestatic 71, 3) := by decide +kernel
theorem dX9_size_9 : decode cX9_size 9 = .ok (.ifCond .ne 5, 3) := by decide +kernel
theorem dX9_size_12 : decode cX9_size 12 = .ok (.iconst (-1), 1) := by decide +kernel
theorem dX9_size_13 : decode cX9_size 13 = .ok (.ireturn, 1) := by decide +kernel
theorem dX9_size_14 : decode cX9_size 14 = .ok (.iconst 0, 1) := by decide +kernel
theorem dX9_size_15 : decode cX9_size 15 = .ok (.istore_n 2, 1) := by decide +kernel
theorem dX9_size_16 : decode cX9_size 16 = .ok (.iconst 0, 1) := by decide +kernel
theorem dX9_size_17 : decode cX9_size 17 = .ok (.istore_n 3, 1) := by decide +kernel
theorem dX9_size_18 : decode cX9_size 18 = .ok (.iload_n 3, 1) := by decide +kernel
theorem dX9_size_19 : decode cX9_size 19 = .ok (.aload_n 0, 1) := by decide +kernel
theorem dX9_size_20 : decode cX9_size 20 = .ok (.getfield 103, 3) := by decide +kernel
theorem dX9_size_23 : decode cX9_size 23 = .ok (.if_icmp .ge 21, 3) := by decide +kernel
theorem dX9_size_26 : decode cX9_size 26 = .ok (.iload_n 2, 1) := by decide +kernel
theorem dX9_size_27 : decode cX9_size 27 = .ok (.aload_n 0, 1) := by decide +kernel
theorem dX9_size_28 : decode cX9_size 28 = .ok (.getfield 19, 3) := by decide +kernel
theorem dX9_size_31 : decode cX9_size 31 = .ok (.iload_n 3, 1) := by decide +kernel
theorem dX9_size_32 : decode cX9_size 32 = .ok (.iaload, 1) := by decide +kernel
theorem dX9_size_33 : decode cX9_size 33 = .ok (.invokestatic 127, 3) := by decide +kernel
theorem dX9_size_36 : decode cX9_size 36 = .ok (.iadd, 1) := by decide +kernel
theorem dX9_size_37 : decode cX9_size 37 = .ok (.istore_n 2, 1) := by decide +kernel
theorem dX9_size_38 : decode cX9_size 38 = .ok (.iinc 3 1, 3) := by decide +kernel
theorem dX9_size_41 : decode cX9_size 41 = .ok (.goto (-23), 3) := by decide +kernel
theorem dX9_size_44 : decode cX9_size 44 = .ok (.iload_n 1, 1) := by decide +kernel
theorem dX9_size_45 : decode cX9_size 45 = .ok (.tableswitch 81 0 4 #[35, 45, 50, 57, 79], 35) := by decide +kernel
theorem dX9_size_80 : decode cX9_size 80 = .ok (.aload_n 0, 1) := by decide +kernel
theorem dX9_size_81 : decode cX9_size 81 = .ok (.getfield 40, 3) := by decide +kernel
theorem dX9_size_84 : decode cX9_size 84 = .ok (.aload_n 0, 1) := by decide +kernel
theorem dX9_size_85 : decode cX9_size 85 = .ok (.getfield 103, 3) := by decide +kernel
theorem dX9_size_88 : decode cX9_size 88 = .ok (.iaload, 1) := by decide +kernel
theorem dX9_size_89 : decode cX9_size 89 = .ok (.ireturn, 1) := by decide +kernel
theorem dX9_size_90 : decode cX9_size 90 = .ok (.aload_n 0, 1) := by decide +kernel
theorem dX9_size_91 : decode cX9_size 91 = .ok (.invokevirtual 189, 3) := by decide +kernel
theorem dX9_size_94 : decode cX9_size 94 = .ok (.ireturn, 1) := by decide +kernel
theorem dX9_size_95 : decode cX9_size 95 = .ok (.iconst 3, 1) := by decide +kernel
theorem dX9_size_96 : decode cX9_size 96 = .ok (.aload_n 0, 1) := by decide +kernel
theorem dX9_size_97 : decode cX9_size 97 = .ok (.invokevirtual 192, 3) := by decide +kernel
theorem dX9_size_100 : decode cX9_size 100 = .ok (.imul, 1) := by decide +kernel
theorem dX9_size_101 : decode cX9_size 101 = .ok (.ireturn, 1) := by decide +kernel
theorem dX9_size_102 : decode cX9_size 102 = .ok (.aload_n 0, 1) := by decide +kernel
theorem dX9_size_103 : decode cX9_size 103 = .ok (.getfield 40, 3) := by decide +kernel
theorem dX9_size_106 : decode cX9_size 106 = .ok (.aload_n 0, 1) := by decide +kernel
theorem dX9_size_107 : decode cX9_size 107 = .ok (.getfield 103, 3) := by decide +kernel
theorem dX9_size_110 : decode cX9_size 110 = .ok (.iaload, 1) := by decide +kernel
theorem dX9_size_111 : decode cX9_size 111 = .ok (.aload_n 0, 1) := by decide +kernel
theorem dX9_size_112 : decode cX9_size 112 = .ok (.invokevirtual 189, 3) := by decide +kernel
theorem dX9_size_115 : decode cX9_size 115 = .ok (.iadd, 1) := by decide +kernel
theorem dX9_size_116 : decode cX9_size 116 = .ok (.iconst 3, 1) := by decide +kernel
theorem dX9_size_117 : decode cX9_size 117 = .ok (.aload_n 0, 1) := by decide +kernel
theorem dX9_size_118 : decode cX9_size 118 = .ok (.invokevirtual 192, 3) := by decide +kernel
theorem dX9_size_121 : decode cX9_size 121 = .ok (.imul, 1) := by decide +kernel
theorem dX9_size_122 : decode cX9_size 122 = .ok (.iadd, 1) := by decide +kernel
theorem dX9_size_123 : decode cX9_size 123 = .ok (.ireturn, 1) := by decide +kernel
theorem dX9_size_124 : decode cX9_size 124 = .ok (.iload_n 2, 1) := by decide +kernel
theorem dX9_size_125 : decode cX9_size 125 = .ok (.ireturn, 1) := by decide +kernel
theorem dX9_size_126 : decode cX9_size 126 = .ok (.aload_n 0, 1) := by decide +kernel
theorem dX9_size_127 : decode cX9_size 127 = .ok (.iconst 0, 1) := by decide +kernel
theorem dX9_size_128 : decode cX9_size 128 = .ok (.aload_n 0, 1) := by decide +kernel
theorem dX9_size_129 : decode cX9_size 129 = .ok (.getfield 103, 3) := by decide +kernel
theorem dX9_size_132 : decode cX9_size 132 = .ok (.invokevirtual 195, 3) := by decide +kernel
theorem dX9_size_135 : decode cX9_size 135 = .ok (.ireturn, 1) := by decide +kernel
theorem dX9_kindOf_0 : decode cX9_kindOf 0 = .ok (.iload_n 0, 1) := by decide +kernel
theorem dX9_kindOf_1 : decode cX9_kindOf 1 = .ok (.tableswitch 146 97 122 #[119, 146, 146, 146, 146, 146, 146, 146, 146, 134, 140, 127, 121, 146, 146, 129, 143, 146, 125, 146, 146, 146, 131, 123, 146, 137], 119) := by decide +kernel
theorem dX9_kindOf_120 : decode cX9_kindOf 120 = .ok (.iconst 0, 1) := by decide +kernel
theorem dX9_kindOf_121 : decode cX9_kindOf 121 = .ok (.ireturn, 1) := by decide +kernel
theorem dX9_kindOf_122 : decode cX9_kindOf 122 = .ok (.iconst 1, 1) := by decide +kernel
theorem dX9_kindOf_123 : decode cX9_kindOf 123 = .ok (.ireturn, 1) := by decide +kernel
theorem dX9_kindOf_124 : decode cX9_kindOf 124 = .ok (.iconst 2, 1) := by decide +kernel
theorem dX9_kindOf_125 : decode cX9_kindOf 125 = .ok (.ireturn, 1) := by decide +kernel
theorem dX9_kindOf_126 : decode cX9_kindOf 126 = .ok (.iconst 3, 1) := by decide +kernel
theorem dX9_kindOf_127 : decode cX9_kindOf 127 = .ok (.ireturn, 1) := by decide +kernel
theorem dX9_kindOf_128 : decode cX9_kindOf 128 = .ok (.iconst 4, 1) := by decide +kernel
theorem dX9_kindOf_129 : decode cX9_kindOf 129 = .ok (.ireturn, 1) := by decide +kernel
theorem dX9_kindOf_130 : decode cX9_kindOf 130 = .ok (.iconst 5, 1) := by decide +kernel
theorem dX9_kindOf_131 : decode cX9_kindOf 131 = .ok (.ireturn, 1) := by decide +kernel
theorem dX9_kindOf_132 : decode cX9_kindOf 132 = .ok (.bipush 6, 2) := by decide +kernel
theorem dX9_kindOf_134 : decode cX9_kindOf 134 = .ok (.ireturn, 1) := by decide +kernel
theorem dX9_kindOf_135 : decode cX9_kindOf 135 = .ok (.bipush 7, 2) := by decide +kernel
theorem dX9_kindOf_137 : decode cX9_kindOf 137 = .ok (.ireturn, 1) := by decide +kernel
theorem dX9_kindOf_138 : decode cX9_kindOf 138 = .ok (.bipush 8, 2) := by decide +kernel
theorem dX9_kindOf_140 : decode cX9_kindOf 140 = .ok (.ireturn, 1) := by decide +kernel
theorem dX9_kindOf_141 : decode cX9_kindOf 141 = .ok (.bipush 9, 2) := by decide +kernel
theorem dX9_kindOf_143 : decode cX9_kindOf 143 = .ok (.ireturn, 1) := by decide +kernel
theorem dX9_kindOf_144 : decode cX9_kindOf 144 = .ok (.bipush 10, 2) := by decide +kernel
theorem dX9_kindOf_146 : decode cX9_kindOf 146 = .ok (.ireturn, 1) := by decide +kernel
theorem dX9_kindOf_147 : decode cX9_kindOf 147 = .ok (.bipush 11, 2) := by decide +kernel
theorem dX9_kindOf_149 : decode cX9_kindOf 149 = .ok (.ireturn, 1) := by decide +kernel
theorem dX9_nibbleOf_0 : decode cX9_nibbleOf 0 = .ok (.aload_n 0, 1) := by decide +kernel
theorem dX9_nibbleOf_1 : decode cX9_nibbleOf 1 = .ok (.getfield 37, 3) := by decide +kernel
theorem dX9_nibbleOf_4 : decode cX9_nibbleOf 4 = .ok (.iload_n 1, 1) := by decide +kernel
theorem dX9_nibbleOf_5 : decode cX9_nibbleOf 5 = .ok (.iaload, 1) := by decide +kernel
theorem dX9_nibbleOf_6 : decode cX9_nibbleOf 6 = .ok (.bipush (-4), 2) := by decide +kernel
theorem dX9_nibbleOf_8 : decode cX9_nibbleOf 8 = .ok (.if_icmp .eq 50, 3) := by decide +kernel
theorem dX9_nibbleOf_11 : decode cX9_nibbleOf 11 = .ok (.iload_n 2, 1) := by decide +kernel
theorem dX9_nibbleOf_12 : decode cX9_nibbleOf 12 = .ok (.ifCond .ne 8, 3) := by decide +kernel
theorem dX9_nibbleOf_15 : decode cX9_nibbleOf 15 = .ok (.bipush 15, 2) := by decide +kernel
theorem dX9_nibbleOf_17 : decode cX9_nibbleOf 17 = .ok (.goto 40, 3) := by decide +kernel
theorem dX9_nibbleOf_20 : decode cX9_nibbleOf 20 = .ok (.iload_n 2, 1) := by decide +kernel
theorem dX9_nibbleOf_21 : decode cX9_nibbleOf 21 = .ok (.iconst 1, 1) := by decide +kernel
theorem dX9_nibbleOf_22 : decode cX9_nibbleOf 22 = .ok (.if_icmp .ne 12, 3) := by decide +kernel
theorem dX9_nibbleOf_25 : decode cX9_nibbleOf 25 = .ok (.aload_n 0, 1) := by decide +kernel
theorem dX9_nibbleOf_26 : decode cX9_nibbleOf 26 = .ok (.getfield 37, 3) := by decide +kernel
theorem dX9_nibbleOf_29 : decode cX9_nibbleOf 29 = .ok (.iload_n 1, 1) := by decide +kernel
theorem dX9_nibbleOf_30 : decode cX9_nibbleOf 30 = .ok (.iaload, 1) := by decide +kernel
theorem dX9_nibbleOf_31 : decode cX9_nibbleOf 31 = .ok (.goto 26, 3) := by decide +kernel
theorem dX9_nibbleOf_34 : decode cX9_nibbleOf 34 = .ok (.aload_n 0, 1) := by decide +kernel
theorem dX9_nibbleOf_35 : decode cX9_nibbleOf 35 = .ok (.getfield 22, 3) := by decide +kernel
theorem dX9_nibbleOf_38 : decode cX9_nibbleOf 38 = .ok (.iload_n 1, 1) := by decide +kernel
theorem dX9_nibbleOf_39 : decode cX9_nibbleOf 39 = .ok (.aload_n 0, 1) := by decide +kernel
theorem dX9_nibbleOf_40 : decode cX9_nibbleOf 40 = .ok (.getfield 28, 3) := by decide +kernel
theorem dX9_nibbleOf_43 : decode cX9_nibbleOf 43 = .ok (.bipush 10, 2) := by decide +kernel
theorem dX9_nibbleOf_45 : decode cX9_nibbleOf 45 = .ok (.aload_n 0, 1) := by decide +kernel
theorem dX9_nibbleOf_46 : decode cX9_nibbleOf 46 = .ok (.getfield 37, 3) := by decide +kernel
theorem dX9_nibbleOf_49 : decode cX9_nibbleOf 49 = .ok (.iload_n 1, 1) := by decide +kernel
theorem dX9_nibbleOf_50 : decode cX9_nibbleOf 50 = .ok (.iaload, 1) := by decide +kernel
theorem dX9_nibbleOf_51 : decode cX9_nibbleOf 51 = .ok (.imul, 1) := by decide +kernel
theorem dX9_nibbleOf_52 : decode cX9_nibbleOf 52 = .ok (.iconst 1, 1) := by decide +kernel
theorem dX9_nibbleOf_53 : decode cX9_nibbleOf 53 = .ok (.iadd, 1) := by decide +kernel
theorem dX9_nibbleOf_54 : decode cX9_nibbleOf 54 = .ok (.iaload, 1) := by decide +kernel
theorem dX9_nibbleOf_55 : decode cX9_nibbleOf 55 = .ok (.iadd, 1) := by decide +kernel
theorem dX9_nibbleOf_56 : decode cX9_nibbleOf 56 = .ok (.iaload, 1) := by decide +kernel
theorem dX9_nibbleOf_57 : decode cX9_nibbleOf 57 = .ok (.ireturn, 1) := by decide +kernel
theorem dX9_nibbleOf_58 : decode cX9_nibbleOf 58 = .ok (.iload_n 2, 1) := by decide +kernel
theorem dX9_nibbleOf_59 : decode cX9_nibbleOf 59 = .ok (.ifCond .ne 13, 3) := by decide +kernel
theorem dX9_nibbleOf_62 : decode cX9_nibbleOf 62 = .ok (.aload_n 0, 1) := by decide +kernel
theorem dX9_nibbleOf_63 : decode cX9_nibbleOf 63 = .ok (.getfield 19, 3) := by decide +kernel
theorem dX9_nibbleOf_66 : decode cX9_nibbleOf 66 = .ok (.iload_n 1, 1) := by decide +kernel
theorem dX9_nibbleOf_67 : decode cX9_nibbleOf 67 = .ok (.iaload, 1) := by decide +kernel
theorem dX9_nibbleOf_68 : decode cX9_nibbleOf 68 = .ok (.invokestatic 199, 3) := by decide +kernel
theorem dX9_nibbleOf_71 : decode cX9_nibbleOf 71 = .ok (.ireturn, 1) := by decide +kernel
theorem dX9_nibbleOf_72 : decode cX9_nibbleOf 72 = .ok (.aload_n 0, 1) := by decide +kernel
theorem dX9_nibbleOf_73 : decode cX9_nibbleOf 73 = .ok (.getfield 19, 3) := by decide +kernel
theorem dX9_nibbleOf_76 : decode cX9_nibbleOf 76 = .ok (.iload_n 1, 1) := by decide +kernel
theorem dX9_nibbleOf_77 : decode cX9_nibbleOf 77 = .ok (.iaload, 1) := by decide +kernel
theorem dX9_nibbleOf_78 : decode cX9_nibbleOf 78 = .ok (.invokestatic 86, 3) := by decide +kernel
theorem dX9_nibbleOf_81 : decode cX9_nibbleOf 81 = .ok (.ifCond .eq 12, 3) := by decide +kernel
theorem dX9_nibbleOf_84 : decode cX9_nibbleOf 84 = .ok (.aload_n 0, 1) := by decide +kernel
theorem dX9_nibbleOf_85 : decode cX9_nibbleOf 85 = .ok (.getfield 22, 3) := by decide +kernel
theorem dX9_nibbleOf_88 : decode cX9_nibbleOf 88 = .ok (.iload_n 1, 1) := by decide +kernel
theorem dX9_nibbleOf_89 : decode cX9_nibbleOf 89 = .ok (.iaload, 1) := by decide +kernel
theorem dX9_nibbleOf_90 : decode cX9_nibbleOf 90 = .ok (.goto 24, 3) := by decide +kernel
theorem dX9_nibbleOf_93 : decode cX9_nibbleOf 93 = .ok (.aload_n 0, 1) := by decide +kernel
theorem dX9_nibbleOf_94 : decode cX9_nibbleOf 94 = .ok (.getfield 40, 3) := by decide +kernel
theorem dX9_nibbleOf_97 : decode cX9_nibbleOf 97 = .ok (.aload_n 0, 1) := by decide +kernel
theorem dX9_nibbleOf_98 : decode cX9_nibbleOf 98 = .ok (.getfield 22, 3) := by decide +kernel
theorem dX9_nibbleOf_101 : decode cX9_nibbleOf 101 = .ok (.iload_n 1, 1) := by decide +kernel
theorem dX9_nibbleOf_102 : decode cX9_nibbleOf 102 = .ok (.iaload, 1) := by decide +kernel
theorem dX9_nibbleOf_103 : decode cX9_nibbleOf 103 = .ok (.iaload, 1) := by decide +kernel
theorem dX9_nibbleOf_104 : decode cX9_nibbleOf 104 = .ok (.bipush 12, 2) := by decide +kernel
theorem dX9_nibbleOf_106 : decode cX9_nibbleOf 106 = .ok (.iconst 4, 1) := by decide +kernel
theorem dX9_nibbleOf_107 : decode cX9_nibbleOf 107 = .ok (.iload_n 2, 1) := by decide +kernel
theorem dX9_nibbleOf_108 : decode cX9_nibbleOf 108 = .ok (.imul, 1) := by decide +kernel
theorem dX9_nibbleOf_109 : decode cX9_nibbleOf 109 = .ok (.isub, 1) := by decide +kernel
theorem dX9_nibbleOf_110 : decode cX9_nibbleOf 110 = .ok (.ishr, 1) := by decide +kernel
theorem dX9_nibbleOf_111 : decode cX9_nibbleOf 111 = .ok (.bipush 15, 2) := by decide +kernel
theorem dX9_nibbleOf_113 : decode cX9_nibbleOf 113 = .ok (.iand, 1) := by decide +kernel
theorem dX9_nibbleOf_114 : decode cX9_nibbleOf 114 = .ok (.ireturn, 1) := by decide +kernel
theorem dX9_nibble_0 : decode cX9_nibble 0 = .ok (.iload_n 1, 1) := by decide +kernel
theorem dX9_nibble_1 : decode cX9_nibble 1 = .ok (.ifCond .ge 5, 3) := by decide +kernel
theorem dX9_nibble_4 : decode cX9_nibble 4 = .ok (.iconst (-1), 1) := by decide +kernel
theorem dX9_nibble_5 : decode cX9_nibble 5 = .ok (.ireturn, 1) := by decide +kernel
theorem dX9_nibble_6 : decode cX9_nibble 6 = .ok (.iload_n 1, 1) := by decide +kernel
theorem dX9_nibble_7 : decode cX9_nibble 7 = .ok (.aload_n 0, 1) := by decide +kernel
theorem dX9_nibble_8 : decode cX9_nibble 8 = .ok (.getfield 40, 3) := by decide +kernel
theorem dX9_nibble_11 : decode cX9_nibble 11 = .ok (.aload_n 0, 1) := by decide +kernel
theorem dX9_nibble_12 : decode cX9_nibble 12 = .ok (.getfield 103, 3) := by decide +kernel
theorem dX9_nibble_15 : decode cX9_nibble 15 = .ok (.iaload, 1) := by decide +kernel
theorem dX9_nibble_16 : decode cX9_nibble 16 = .ok (.if_icmp .lt 6, 3) := by decide +kernel
theorem dX9_nibble_19 : decode cX9_nibble 19 = .ok (.bipush (-4), 2) := by decide +kernel
theorem dX9_nibble_21 : decode cX9_nibble 21 = .ok (.ireturn, 1) := by decide +kernel
theorem dX9_nibble_22 : decode cX9_nibble 22 = .ok (.aload_n 0, 1) := by decide +kernel
theorem dX9_nibble_23 : decode cX9_nibble 23 = .ok (.getfield 103, 3) := by decide +kernel
theorem dX9_nibble_26 : decode cX9_nibble 26 = .ok (.iconst 1, 1) := by decide +kernel
theorem dX9_nibble_27 : decode cX9_nibble 27 = .ok (.isub, 1) := by decide +kernel
theorem dX9_nibble_28 : decode cX9_nibble 28 = .ok (.istore_n 2, 1) := by decide +kernel
theorem dX9_nibble_29 : decode cX9_nibble 29 = .ok (.aload_n 0, 1) := by decide +kernel
theorem dX9_nibble_30 : decode cX9_nibble 30 = .ok (.getfield 40, 3) := by decide +kernel
theorem dX9_nibble_33 : decode cX9_nibble 33 = .ok (.iload_n 2, 1) := by decide +kernel
theorem dX9_nibble_34 : decode cX9_nibble 34 = .ok (.iaload, 1) := by decide +kernel
theorem dX9_nibble_35 : decode cX9_nibble 35 = .ok (.bipush (-4), 2) := by decide +kernel
theorem dX9_nibble_37 : decode cX9_nibble 37 = .ok (.if_icmp .eq 13, 3) := by decide +kernel
theorem dX9_nibble_40 : decode cX9_nibble 40 = .ok (.aload_n 0, 1) := by decide +kernel
theorem dX9_nibble_41 : decode cX9_nibble 41 = .ok (.getfield 40, 3) := by decide +kernel
theorem dX9_nibble_44 : decode cX9_nibble 44 = .ok (.iload_n 2, 1) := by decide +kernel
theorem dX9_nibble_45 : decode cX9_nibble 45 = .ok (.iaload, 1) := by decide +kernel
theorem dX9_nibble_46 : decode cX9_nibble 46 = .ok (.iload_n 1, 1) := by decide +kernel
theorem dX9_nibble_47 : decode cX9_nibble 47 = .ok (.if_icmp .le 9, 3) := by decide +kernel
theorem dX9_nibble_50 : decode cX9_nibble 50 = .ok (.iinc 2 (-1), 3) := by decide +kernel
theorem dX9_nibble_53 : decode cX9_nibble 53 = .ok (.goto (-24), 3) := by decide +kernel
theorem dX9_nibble_56 : decode cX9_nibble 56 = .ok (.aload_n 0, 1) := by decide +kernel
theorem dX9_nibble_57 : decode cX9_nibble 57 = .ok (.iload_n 2, 1) := by decide +kernel
theorem dX9_nibble_58 : decode cX9_nibble 58 = .ok (.iload_n 1, 1) := by decide +kernel
theorem dX9_nibble_59 : decode cX9_nibble 59 = .ok (.aload_n 0, 1) := by decide +kernel
theorem dX9_nibble_60 : decode cX9_nibble 60 = .ok (.getfield 40, 3) := by decide +kernel
theorem dX9_nibble_63 : decode cX9_nibble 63 = .ok (.iload_n 2, 1) := by decide +kernel
theorem dX9_nibble_64 : decode cX9_nibble 64 = .ok (.iaload, 1) := by decide +kernel
theorem dX9_nibble_65 : decode cX9_nibble 65 = .ok (.isub, 1) := by decide +kernel
theorem dX9_nibble_66 : decode cX9_nibble 66 = .ok (.invokevirtual 202, 3) := by decide +kernel
theorem dX9_nibble_69 : decode cX9_nibble 69 = .ok (.ireturn, 1) := by decide +kernel
theorem dX9_address_0 : decode cX9_address 0 = .ok (.aload_n 0, 1) := by decide +kernel
theorem dX9_address_1 : decode cX9_address 1 = .ok (.iload_n 1, 1) := by decide +kernel
theorem dX9_address_2 : decode cX9_address 2 = .ok (.invokevirtual 140, 3) := by decide +kernel
theorem dX9_address_5 : decode cX9_address 5 = .ok (.ifCond .eq 12, 3) := by decide +kernel
theorem dX9_address_8 : decode cX9_address 8 = .ok (.aload_n 0, 1) := by decide +kernel
theorem dX9_address_9 : decode cX9_address 9 = .ok (.getfield 40, 3) := by decide +kernel
theorem dX9_address_12 : decode cX9_address 12 = .ok (.iload_n 1, 1) := by decide +kernel
theorem dX9_address_13 : decode cX9_address 13 = .ok (.iaload, 1) := by decide +kernel
theorem dX9_address_14 : decode cX9_address 14 = .ok (.goto 4, 3) := by decide +kernel
theorem dX9_address_17 : decode cX9_address 17 = .ok (.iconst (-1), 1) := by decide +kernel
theorem dX9_address_18 : decode cX9_address 18 = .ok (.ireturn, 1) := by decide +kernel
theorem dX9_at_0 : decode cX9_at 0 = .ok (.iload_n 1, 1) := by decide +kernel
theorem dX9_at_1 : decode cX9_at 1 = .ok (.ifCond .ge 5, 3) := by decide +kernel
theorem dX9_at_4 : decode cX9_at 4 = .ok (.iconst (-1), 1) := by decide +kernel
theorem dX9_at_5 : decode cX9_at 5 = .ok (.ireturn, 1) := by decide +kernel
theorem dX9_at_6 : decode cX9_at 6 = .ok (.iconst 0, 1) := by decide +kernel
theorem dX9_at_7 : decode cX9_at 7 = .ok (.istore_n 2, 1) := by decide +kernel
theorem dX9_at_8 : decode cX9_at 8 = .ok (.iload_n 2, 1) := by decide +kernel
theorem dX9_at_9 : decode cX9_at 9 = .ok (.aload_n 0, 1) := by decide +kernel
theorem dX9_at_10 : decode cX9_at 10 = .ok (.getfield 103, 3) := by decide +kernel
theorem dX9_at_13 : decode cX9_at 13 = .ok (.if_icmp .ge 21, 3) := by decide +kernel
theorem dX9_at_16 : decode cX9_at 16 = .ok (.aload_n 0, 1) := by decide +kernel
theorem dX9_at_17 : decode cX9_at 17 = .ok (.getfield 40, 3) := by decide +kernel
theorem dX9_at_20 : decode cX9_at 20 = .ok (.iload_n 2, 1) := by decide +kernel
theorem dX9_at_21 : decode cX9_at 21 = .ok (.iaload, 1) := by decide +kernel
theorem dX9_at_22 : decode cX9_at 22 = .ok (.iload_n 1, 1) := by decide +kernel
theorem dX9_at_23 : decode cX9_at 23 = .ok (.if_icmp .ne 5, 3) := by decide +kernel
theorem dX9_at_26 : decode cX9_at 26 = .ok (.iload_n 2, 1) := by decide +kernel
theorem dX9_at_27 : decode cX9_at 27 = .ok (.ireturn, 1) := by decide +kernel
theorem dX9_at_28 : decode cX9_at 28 = .ok (.iinc 2 1, 3) := by decide +kernel
theorem dX9_at_31 : decode cX9_at 31 = .ok (.goto (-23), 3) := by decide +kernel
theorem dX9_at_34 : decode cX9_at 34 = .ok (.bipush (-4), 2) := by decide +kernel
theorem dX9_at_36 : decode cX9_at 36 = .ok (.ireturn, 1) := by decide +kernel
theorem dX9_lineEnd_0 : decode cX9_lineEnd 0 = .ok (.iload_n 1, 1) := by decide +kernel
theorem dX9_lineEnd_1 : decode cX9_lineEnd 1 = .ok (.iconst 1, 1) := by decide +kernel
theorem dX9_lineEnd_2 : decode cX9_lineEnd 2 = .ok (.iadd, 1) := by decide +kernel
theorem dX9_lineEnd_3 : decode cX9_lineEnd 3 = .ok (.aload_n 0, 1) := by decide +kernel
theorem dX9_lineEnd_4 : decode cX9_lineEnd 4 = .ok (.getfield 28, 3) := by decide +kernel
theorem dX9_lineEnd_7 : decode cX9_lineEnd 7 = .ok (.bipush 80, 2) := by decide +kernel
theorem dX9_lineEnd_9 : decode cX9_lineEnd 9 = .ok (.iaload, 1) := by decide +kernel
theorem dX9_lineEnd_10 : decode cX9_lineEnd 10 = .ok (.imul, 1) := by decide +kernel
theorem dX9_lineEnd_11 : decode cX9_lineEnd 11 = .ok (.istore_n 2, 1) := by decide +kernel
theorem dX9_lineEnd_12 : decode cX9_lineEnd 12 = .ok (.iload_n 2, 1) := by decide +kernel
theorem dX9_lineEnd_13 : decode cX9_lineEnd 13 = .ok (.aload_n 0, 1) := by decide +kernel
theorem dX9_lineEnd_14 : decode cX9_lineEnd 14 = .ok (.getfield 103, 3) := by decide +kernel
theorem dX9_lineEnd_17 : decode cX9_lineEnd 17 = .ok (.if_icmp .ge 7, 3) := by decide +kernel
theorem dX9_lineEnd_20 : decode cX9_lineEnd 20 = .ok (.iload_n 2, 1) := by decide +kernel
theorem dX9_lineEnd_21 : decode cX9_lineEnd 21 = .ok (.goto 7, 3) := by decide +kernel
theorem dX9_lineEnd_24 : decode cX9_lineEnd 24 = .ok (.aload_n 0, 1) := by decide +kernel
theorem dX9_lineEnd_25 : decode cX9_lineEnd 25 = .ok (.getfield 103, 3) := by decide +kernel
theorem dX9_lineEnd_28 : decode cX9_lineEnd 28 = .ok (.ireturn, 1) := by decide +kernel
theorem dX9_line_0 : decode cX9_line 0 = .ok (.iload_n 1, 1) := by decide +kernel
theorem dX9_line_1 : decode cX9_line 1 = .ok (.i2l, 1) := by decide +kernel
theorem dX9_line_2 : decode cX9_line 2 = .ok (.lconst 0, 1) := by decide +kernel
theorem dX9_line_3 : decode cX9_line 3 = .ok (.aload_n 0, 1) := by decide +kernel
theorem dX9_line_4 : decode cX9_line 4 = .ok (.invokevirtual 192, 3) := by decide +kernel
theorem dX9_line_7 : decode cX9_line 7 = .ok (.iconst 1, 1) := by decide +kernel
theorem dX9_line_8 : decode cX9_line 8 = .ok (.isub, 1) := by decide +kernel
theorem dX9_line_9 : decode cX9_line 9 = .ok (.i2l, 1) := by decide +kernel
theorem dX9_line_10 : decode cX9_line 10 = .ok (.invokestatic 71, 3) := by decide +kernel
theorem dX9_line_13 : decode cX9_line 13 = .ok (.ifCond .eq 15, 3) := by decide +kernel
theorem dX9_line_16 : decode cX9_line 16 = .ok (.iload_n 2, 1) := by decide +kernel
theorem dX9_line_17 : decode cX9_line 17 = .ok (.i2l, 1) := by decide +kernel
theorem dX9_line_18 : decode cX9_line 18 = .ok (.lconst 0, 1) := by decide +kernel
theorem dX9_line_19 : decode cX9_line 19 = .ok (.ldc2_w 143, 3) := by decide +kernel
theorem dX9_line_22 : decode cX9_line 22 = .ok (.invokestatic 71, 3) := by decide +kernel
theorem dX9_line_25 : decode cX9_line 25 = .ok (.ifCond .ne 5, 3) := by decide +kernel
theorem dX9_line_28 : decode cX9_line 28 = .ok (.iconst (-1), 1) := by decide +kernel
theorem dX9_line_29 : decode cX9_line 29 = .ok (.ireturn, 1) := by decide +kernel
theorem dX9_line_30 : decode cX9_line 30 = .ok (.iload_n 1, 1) := by decide +kernel
theorem dX9_line_31 : decode cX9_line 31 = .ok (.aload_n 0, 1) := by decide +kernel
theorem dX9_line_32 : decode cX9_line 32 = .ok (.getfield 28, 3) := by decide +kernel
theorem dX9_line_35 : decode cX9_line 35 = .ok (.bipush 80, 2) := by decide +kernel
theorem dX9_line_37 : decode cX9_line 37 = .ok (.iaload, 1) := by decide +kernel
theorem dX9_line_38 : decode cX9_line 38 = .ok (.imul, 1) := by decide +kernel
theorem dX9_line_39 : decode cX9_line 39 = .ok (.istore_n 3, 1) := by decide +kernel
theorem dX9_line_40 : decode cX9_line 40 = .ok (.iload_n 2, 1) := by decide +kernel
theorem dX9_line_41 : decode cX9_line 41 = .ok (.ifCond .ne 12, 3) := by decide +kernel
theorem dX9_line_44 : decode cX9_line 44 = .ok (.aload_n 0, 1) := by decide +kernel
theorem dX9_line_45 : decode cX9_line 45 = .ok (.getfield 40, 3) := by decide +kernel
theorem dX9_line_48 : decode cX9_line 48 = .ok (.iload_n 3, 1) := by decide +kernel
theorem dX9_line_49 : decode cX9_line 49 = .ok (.iaload, 1) := by decide +kernel
theorem dX9_line_50 : decode cX9_line 50 = .ok (.goto 38, 3) := by decide +kernel
theorem dX9_line_53 : decode cX9_line 53 = .ok (.iload_n 2, 1) := by decide +kernel
theorem dX9_line_54 : decode cX9_line 54 = .ok (.iconst 1, 1) := by decide +kernel
theorem dX9_line_55 : decode cX9_line 55 = .ok (.if_icmp .ne 23, 3) := by decide +kernel
theorem dX9_line_58 : decode cX9_line 58 = .ok (.aload_n 0, 1) := by decide +kernel
theorem dX9_line_59 : decode cX9_line 59 = .ok (.getfield 40, 3) := by decide +kernel
theorem dX9_line_62 : decode cX9_line 62 = .ok (.aload_n 0, 1) := by decide +kernel
theorem dX9_line_63 : decode cX9_line 63 = .ok (.iload_n 1, 1) := by decide +kernel
theorem dX9_line_64 : decode cX9_line 64 = .ok (.invokevirtual 205, 3) := by decide +kernel
theorem dX9_line_67 : decode cX9_line 67 = .ok (.iaload, 1) := by decide +kernel
theorem dX9_line_68 : decode cX9_line 68 = .ok (.aload_n 0, 1) := by decide +kernel
theorem dX9_line_69 : decode cX9_line 69 = .ok (.getfield 40, 3) := by decide +kernel
theorem dX9_line_72 : decode cX9_line 72 = .ok (.iload_n 3, 1) := by decide +kernel
theorem dX9_line_73 : decode cX9_line 73 = .ok (.iaload, 1) := by decide +kernel
theorem dX9_line_74 : decode cX9_line 74 = .ok (.isub, 1) := by decide +kernel
theorem dX9_line_75 : decode cX9_line 75 = .ok (.goto 13, 3) := by decide +kernel
theorem dX9_line_78 : decode cX9_line 78 = .ok (.aload_n 0, 1) := by decide +kernel
theorem dX9_line_79 : decode cX9_line 79 = .ok (.iload_n 3, 1) := by decide +kernel
theorem dX9_line_80 : decode cX9_line 80 = .ok (.aload_n 0, 1) := by decide +kernel
theorem dX9_line_81 : decode cX9_line 81 = .ok (.iload_n 1, 1) := by decide +kernel
theorem dX9_line_82 : decode cX9_line 82 = .ok (.invokevirtual 205, 3) := by decide +kernel
theorem dX9_line_85 : decode cX9_line 85 = .ok (.invokevirtual 195, 3) := by decide +kernel
theorem dX9_line_88 : decode cX9_line 88 = .ok (.ireturn, 1) := by decide +kernel
theorem dX9_seek_0 : decode cX9_seek 0 = .ok (.aload_n 0, 1) := by decide +kernel
theorem dX9_seek_1 : decode cX9_seek 1 = .ok (.iload_n 1, 1) := by decide +kernel
theorem dX9_seek_2 : decode cX9_seek 2 = .ok (.invokevirtual 140, 3) := by decide +kernel
theorem dX9_seek_5 : decode cX9_seek 5 = .ok (.ifCond .ne 5, 3) := by decide +kernel
theorem dX9_seek_8 : decode cX9_seek 8 = .ok (.iconst (-1), 1) := by decide +kernel
theorem dX9_seek_9 : decode cX9_seek 9 = .ok (.ireturn, 1) := by decide +kernel
theorem dX9_seek_10 : decode cX9_seek 10 = .ok (.iload_n 1, 1) := by decide +kernel
theorem dX9_seek_11 : decode cX9_seek 11 = .ok (.iconst 1, 1) := by decide +kernel
theorem dX9_seek_12 : decode cX9_seek 12 = .ok (.iadd, 1) := by decide +kernel
theorem dX9_seek_13 : decode cX9_seek 13 = .ok (.istore_n 2, 1) := by decide +kernel
theorem dX9_seek_14 : decode cX9_seek 14 = .ok (.iload_n 2, 1) := by decide +kernel
theorem dX9_seek_15 : decode cX9_seek 15 = .ok (.aload_n 0, 1) := by decide +kernel
theorem dX9_seek_16 : decode cX9_seek 16 = .ok (.getfield 103, 3) := by decide +kernel
theorem dX9_seek_19 : decode cX9_seek 19 = .ok (.if_icmp .ge 20, 3) := by decide +kernel
theorem dX9_seek_22 : decode cX9_seek 22 = .ok (.aload_n 0, 1) := by decide +kernel
theorem dX9_seek_23 : decode cX9_seek 23 = .ok (.getfield 40, 3) := by decide +kernel
theorem dX9_seek_26 : decode cX9_seek 26 = .ok (.iload_n 2, 1) := by decide +kernel
end
section
theorem dX9_seek_27 : decode cX9_seek 27 = .ok (.iaload, 1) := by decide +kernel
theorem dX9_seek_28 : decode cX9_seek 28 = .ok (.bipush (-4), 2) := by decide +kernel
theorem dX9_seek_30 : decode cX9_seek 30 = .ok (.if_icmp .ne 9, 3) := by decide +kernel
theorem dX9_seek_33 : decode cX9_seek 33 = .ok (.iinc 2 1, 3) := by decide +kernel
theorem dX9_seek_36 : decode cX9_seek 36 = .ok (.goto (-22), 3) := by decide +kernel
theorem dX9_seek_39 : decode cX9_seek 39 = .ok (.aload_n 0, 1) := by decide +kernel
theorem dX9_seek_40 : decode cX9_seek 40 = .ok (.getfield 40, 3) := by decide +kernel
theorem dX9_seek_43 : decode cX9_seek 43 = .ok (.iload_n 2, 1) := by decide +kernel
theorem dX9_seek_44 : decode cX9_seek 44 = .ok (.iaload, 1) := by decide +kernel
theorem dX9_seek_45 : decode cX9_seek 45 = .ok (.aload_n 0, 1) := by decide +kernel
theorem dX9_seek_46 : decode cX9_seek 46 = .ok (.getfield 40, 3) := by decide +kernel
theorem dX9_seek_49 : decode cX9_seek 49 = .ok (.iload_n 1, 1) := by decide +kernel
theorem dX9_seek_50 : decode cX9_seek 50 = .ok (.aload_n 0, 1) := by decide +kernel
theorem dX9_seek_51 : decode cX9_seek 51 = .ok (.getfield 28, 3) := by decide +kernel
theorem dX9_seek_54 : decode cX9_seek 54 = .ok (.bipush 80, 2) := by decide +kernel
theorem dX9_seek_56 : decode cX9_seek 56 = .ok (.iaload, 1) := by decide +kernel
theorem dX9_seek_57 : decode cX9_seek 57 = .ok (.idiv, 1) := by decide +kernel
theorem dX9_seek_58 : decode cX9_seek 58 = .ok (.aload_n 0, 1) := by decide +kernel
theorem dX9_seek_59 : decode cX9_seek 59 = .ok (.getfield 28, 3) := by decide +kernel
theorem dX9_seek_62 : decode cX9_seek 62 = .ok (.bipush 80, 2) := by decide +kernel
theorem dX9_seek_64 : decode cX9_seek 64 = .ok (.iaload, 1) := by decide +kernel
theorem dX9_seek_65 : decode cX9_seek 65 = .ok (.imul, 1) := by decide +kernel
theorem dX9_seek_66 : decode cX9_seek 66 = .ok (.iaload, 1) := by decide +kernel
theorem dX9_seek_67 : decode cX9_seek 67 = .ok (.isub, 1) := by decide +kernel
theorem dX9_seek_68 : decode cX9_seek 68 = .ok (.ireturn, 1) := by decide +kernel
theorem dX9_start_0 : decode cX9_start 0 = .ok (.iload_n 1, 1) := by decide +kernel
theorem dX9_start_1 : decode cX9_start 1 = .ok (.i2l, 1) := by decide +kernel
theorem dX9_start_2 : decode cX9_start 2 = .ok (.lconst 0, 1) := by decide +kernel
theorem dX9_start_3 : decode cX9_start 3 = .ok (.lconst 1, 1) := by decide +kernel
theorem dX9_start_4 : decode cX9_start 4 = .ok (.invokestatic 71, 3) := by decide +kernel
theorem dX9_start_7 : decode cX9_start 7 = .ok (.ifCond .ne 5, 3) := by decide +kernel
theorem dX9_start_10 : decode cX9_start 10 = .ok (.iconst (-1), 1) := by decide +kernel
theorem dX9_start_11 : decode cX9_start 11 = .ok (.ireturn, 1) := by decide +kernel
theorem dX9_start_12 : decode cX9_start 12 = .ok (.aload_n 0, 1) := by decide +kernel
theorem dX9_start_13 : decode cX9_start 13 = .ok (.iconst 1, 1) := by decide +kernel
theorem dX9_start_14 : decode cX9_start 14 = .ok (.putfield 109, 3) := by decide +kernel
theorem dX9_start_17 : decode cX9_start 17 = .ok (.aload_n 0, 1) := by decide +kernel
theorem dX9_start_18 : decode cX9_start 18 = .ok (.iload_n 1, 1) := by decide +kernel
theorem dX9_start_19 : decode cX9_start 19 = .ok (.putfield 208, 3) := by decide +kernel
theorem dX9_start_22 : decode cX9_start 22 = .ok (.aload_n 0, 1) := by decide +kernel
theorem dX9_start_23 : decode cX9_start 23 = .ok (.iconst 0, 1) := by decide +kernel
theorem dX9_start_24 : decode cX9_start 24 = .ok (.putfield 211, 3) := by decide +kernel
theorem dX9_start_27 : decode cX9_start 27 = .ok (.aload_n 0, 1) := by decide +kernel
theorem dX9_start_28 : decode cX9_start 28 = .ok (.iconst 0, 1) := by decide +kernel
theorem dX9_start_29 : decode cX9_start 29 = .ok (.putfield 214, 3) := by decide +kernel
theorem dX9_start_32 : decode cX9_start 32 = .ok (.aload_n 0, 1) := by decide +kernel
theorem dX9_start_33 : decode cX9_start 33 = .ok (.iconst 0, 1) := by decide +kernel
theorem dX9_start_34 : decode cX9_start 34 = .ok (.putfield 217, 3) := by decide +kernel
theorem dX9_start_37 : decode cX9_start 37 = .ok (.aload_n 0, 1) := by decide +kernel
theorem dX9_start_38 : decode cX9_start 38 = .ok (.iconst 0, 1) := by decide +kernel
theorem dX9_start_39 : decode cX9_start 39 = .ok (.putfield 220, 3) := by decide +kernel
theorem dX9_start_42 : decode cX9_start 42 = .ok (.aload_n 0, 1) := by decide +kernel
theorem dX9_start_43 : decode cX9_start 43 = .ok (.iconst 0, 1) := by decide +kernel
theorem dX9_start_44 : decode cX9_start 44 = .ok (.putfield 223, 3) := by decide +kernel
theorem dX9_start_47 : decode cX9_start 47 = .ok (.aload_n 0, 1) := by decide +kernel
theorem dX9_start_48 : decode cX9_start 48 = .ok (.iconst 0, 1) := by decide +kernel
theorem dX9_start_49 : decode cX9_start 49 = .ok (.putfield 226, 3) := by decide +kernel
theorem dX9_start_52 : decode cX9_start 52 = .ok (.aload_n 0, 1) := by decide +kernel
theorem dX9_start_53 : decode cX9_start 53 = .ok (.iconst 0, 1) := by decide +kernel
theorem dX9_start_54 : decode cX9_start 54 = .ok (.putfield 229, 3) := by decide +kernel
theorem dX9_start_57 : decode cX9_start 57 = .ok (.aload_n 0, 1) := by decide +kernel
theorem dX9_start_58 : decode cX9_start 58 = .ok (.iconst 0, 1) := by decide +kernel
theorem dX9_start_59 : decode cX9_start 59 = .ok (.putfield 232, 3) := by decide +kernel
theorem dX9_start_62 : decode cX9_start 62 = .ok (.iconst 0, 1) := by decide +kernel
theorem dX9_start_63 : decode cX9_start 63 = .ok (.istore_n 2, 1) := by decide +kernel
theorem dX9_start_64 : decode cX9_start 64 = .ok (.iload_n 2, 1) := by decide +kernel
theorem dX9_start_65 : decode cX9_start 65 = .ok (.bipush 10, 2) := by decide +kernel
theorem dX9_start_67 : decode cX9_start 67 = .ok (.if_icmp .ge 16, 3) := by decide +kernel
theorem dX9_start_70 : decode cX9_start 70 = .ok (.aload_n 0, 1) := by decide +kernel
theorem dX9_start_71 : decode cX9_start 71 = .ok (.getfield 43, 3) := by decide +kernel
theorem dX9_start_74 : decode cX9_start 74 = .ok (.iload_n 2, 1) := by decide +kernel
theorem dX9_start_75 : decode cX9_start 75 = .ok (.iconst 0, 1) := by decide +kernel
theorem dX9_start_76 : decode cX9_start 76 = .ok (.iastore, 1) := by decide +kernel
theorem dX9_start_77 : decode cX9_start 77 = .ok (.iinc 2 1, 3) := by decide +kernel
theorem dX9_start_80 : decode cX9_start 80 = .ok (.goto (-16), 3) := by decide +kernel
theorem dX9_start_83 : decode cX9_start 83 = .ok (.iconst 0, 1) := by decide +kernel
theorem dX9_start_84 : decode cX9_start 84 = .ok (.ireturn, 1) := by decide +kernel
theorem dX9_goesOn_0 : decode cX9_goesOn 0 = .ok (.aload_n 0, 1) := by decide +kernel
theorem dX9_goesOn_1 : decode cX9_goesOn 1 = .ok (.getfield 211, 3) := by decide +kernel
theorem dX9_goesOn_4 : decode cX9_goesOn 4 = .ok (.bipush (-4), 2) := by decide +kernel
theorem dX9_goesOn_6 : decode cX9_goesOn 6 = .ok (.if_icmp .eq 32, 3) := by decide +kernel
theorem dX9_goesOn_9 : decode cX9_goesOn 9 = .ok (.aload_n 0, 1) := by decide +kernel
theorem dX9_goesOn_10 : decode cX9_goesOn 10 = .ok (.getfield 220, 3) := by decide +kernel
theorem dX9_goesOn_13 : decode cX9_goesOn 13 = .ok (.bipush 12, 2) := by decide +kernel
theorem dX9_goesOn_15 : decode cX9_goesOn 15 = .ok (.if_icmp .ne 23, 3) := by decide +kernel
theorem dX9_goesOn_18 : decode cX9_goesOn 18 = .ok (.aload_n 0, 1) := by decide +kernel
theorem dX9_goesOn_19 : decode cX9_goesOn 19 = .ok (.getfield 19, 3) := by decide +kernel
theorem dX9_goesOn_22 : decode cX9_goesOn 22 = .ok (.aload_n 0, 1) := by decide +kernel
theorem dX9_goesOn_23 : decode cX9_goesOn 23 = .ok (.getfield 211, 3) := by decide +kernel
theorem dX9_goesOn_26 : decode cX9_goesOn 26 = .ok (.iaload, 1) := by decide +kernel
theorem dX9_goesOn_27 : decode cX9_goesOn 27 = .ok (.bipush 119, 2) := by decide +kernel
theorem dX9_goesOn_29 : decode cX9_goesOn 29 = .ok (.if_icmp .ne 9, 3) := by decide +kernel
theorem dX9_goesOn_32 : decode cX9_goesOn 32 = .ok (.aload_n 0, 1) := by decide +kernel
theorem dX9_goesOn_33 : decode cX9_goesOn 33 = .ok (.bipush (-4), 2) := by decide +kernel
theorem dX9_goesOn_35 : decode cX9_goesOn 35 = .ok (.putfield 211, 3) := by decide +kernel
theorem dX9_goesOn_38 : decode cX9_goesOn 38 = .ok (.aload_n 0, 1) := by decide +kernel
theorem dX9_goesOn_39 : decode cX9_goesOn 39 = .ok (.getfield 211, 3) := by decide +kernel
theorem dX9_goesOn_42 : decode cX9_goesOn 42 = .ok (.bipush (-4), 2) := by decide +kernel
theorem dX9_goesOn_44 : decode cX9_goesOn 44 = .ok (.if_icmp .eq 7, 3) := by decide +kernel
theorem dX9_goesOn_47 : decode cX9_goesOn 47 = .ok (.iconst 1, 1) := by decide +kernel
theorem dX9_goesOn_48 : decode cX9_goesOn 48 = .ok (.goto 4, 3) := by decide +kernel
theorem dX9_goesOn_51 : decode cX9_goesOn 51 = .ok (.iconst 0, 1) := by decide +kernel
theorem dX9_goesOn_52 : decode cX9_goesOn 52 = .ok (.ireturn, 1) := by decide +kernel
theorem dX9_placeOf_0 : decode cX9_placeOf 0 = .ok (.aload_n 0, 1) := by decide +kernel
theorem dX9_placeOf_1 : decode cX9_placeOf 1 = .ok (.getfield 208, 3) := by decide +kernel
theorem dX9_placeOf_4 : decode cX9_placeOf 4 = .ok (.ifCond .ne 7, 3) := by decide +kernel
theorem dX9_placeOf_7 : decode cX9_placeOf 7 = .ok (.iload_n 1, 1) := by decide +kernel
theorem dX9_placeOf_8 : decode cX9_placeOf 8 = .ok (.goto 9, 3) := by decide +kernel
theorem dX9_placeOf_11 : decode cX9_placeOf 11 = .ok (.aload_n 0, 1) := by decide +kernel
theorem dX9_placeOf_12 : decode cX9_placeOf 12 = .ok (.getfield 40, 3) := by decide +kernel
theorem dX9_placeOf_15 : decode cX9_placeOf 15 = .ok (.iload_n 1, 1) := by decide +kernel
theorem dX9_placeOf_16 : decode cX9_placeOf 16 = .ok (.iaload, 1) := by decide +kernel
theorem dX9_placeOf_17 : decode cX9_placeOf 17 = .ok (.ireturn, 1) := by decide +kernel
theorem dX9_byAddress_0 : decode cX9_byAddress 0 = .ok (.iconst 0, 1) := by decide +kernel
theorem dX9_byAddress_1 : decode cX9_byAddress 1 = .ok (.istore_n 1, 1) := by decide +kernel
theorem dX9_byAddress_2 : decode cX9_byAddress 2 = .ok (.iload_n 1, 1) := by decide +kernel
theorem dX9_byAddress_3 : decode cX9_byAddress 3 = .ok (.aload_n 0, 1) := by decide +kernel
theorem dX9_byAddress_4 : decode cX9_byAddress 4 = .ok (.getfield 103, 3) := by decide +kernel
theorem dX9_byAddress_7 : decode cX9_byAddress 7 = .ok (.if_icmp .ge 44, 3) := by decide +kernel
theorem dX9_byAddress_10 : decode cX9_byAddress 10 = .ok (.aload_n 0, 1) := by decide +kernel
theorem dX9_byAddress_11 : decode cX9_byAddress 11 = .ok (.getfield 19, 3) := by decide +kernel
theorem dX9_byAddress_14 : decode cX9_byAddress 14 = .ok (.iload_n 1, 1) := by decide +kernel
theorem dX9_byAddress_15 : decode cX9_byAddress 15 = .ok (.iaload, 1) := by decide +kernel
theorem dX9_byAddress_16 : decode cX9_byAddress 16 = .ok (.bipush 107, 2) := by decide +kernel
theorem dX9_byAddress_18 : decode cX9_byAddress 18 = .ok (.if_icmp .ne 27, 3) := by decide +kernel
theorem dX9_byAddress_21 : decode cX9_byAddress 21 = .ok (.aload_n 0, 1) := by decide +kernel
theorem dX9_byAddress_22 : decode cX9_byAddress 22 = .ok (.aload_n 0, 1) := by decide +kernel
theorem dX9_byAddress_23 : decode cX9_byAddress 23 = .ok (.getfield 22, 3) := by decide +kernel
theorem dX9_byAddress_26 : decode cX9_byAddress 26 = .ok (.iload_n 1, 1) := by decide +kernel
theorem dX9_byAddress_27 : decode cX9_byAddress 27 = .ok (.iaload, 1) := by decide +kernel
theorem dX9_byAddress_28 : decode cX9_byAddress 28 = .ok (.invokevirtual 235, 3) := by decide +kernel
theorem dX9_byAddress_31 : decode cX9_byAddress 31 = .ok (.aload_n 0, 1) := by decide +kernel
theorem dX9_byAddress_32 : decode cX9_byAddress 32 = .ok (.getfield 214, 3) := by decide +kernel
theorem dX9_byAddress_35 : decode cX9_byAddress 35 = .ok (.if_icmp .ne 10, 3) := by decide +kernel
theorem dX9_byAddress_38 : decode cX9_byAddress 38 = .ok (.aload_n 0, 1) := by decide +kernel
theorem dX9_byAddress_39 : decode cX9_byAddress 39 = .ok (.getfield 22, 3) := by decide +kernel
theorem dX9_byAddress_42 : decode cX9_byAddress 42 = .ok (.iload_n 1, 1) := by decide +kernel
theorem dX9_byAddress_43 : decode cX9_byAddress 43 = .ok (.iaload, 1) := by decide +kernel
theorem dX9_byAddress_44 : decode cX9_byAddress 44 = .ok (.ireturn, 1) := by decide +kernel
theorem dX9_byAddress_45 : decode cX9_byAddress 45 = .ok (.iinc 1 1, 3) := by decide +kernel
theorem dX9_byAddress_48 : decode cX9_byAddress 48 = .ok (.goto (-46), 3) := by decide +kernel
theorem dX9_byAddress_51 : decode cX9_byAddress 51 = .ok (.aload_n 0, 1) := by decide +kernel
theorem dX9_byAddress_52 : decode cX9_byAddress 52 = .ok (.iconst 1, 1) := by decide +kernel
theorem dX9_byAddress_53 : decode cX9_byAddress 53 = .ok (.putfield 223, 3) := by decide +kernel
theorem dX9_byAddress_56 : decode cX9_byAddress 56 = .ok (.bipush (-4), 2) := by decide +kernel
theorem dX9_byAddress_58 : decode cX9_byAddress 58 = .ok (.ireturn, 1) := by decide +kernel
theorem dX9_holdLine_0 : decode cX9_holdLine 0 = .ok (.iconst 0, 1) := by decide +kernel
theorem dX9_holdLine_1 : decode cX9_holdLine 1 = .ok (.istore_n 2, 1) := by decide +kernel
theorem dX9_holdLine_2 : decode cX9_holdLine 2 = .ok (.iload_n 2, 1) := by decide +kernel
theorem dX9_holdLine_3 : decode cX9_holdLine 3 = .ok (.aload_n 0, 1) := by decide +kernel
theorem dX9_holdLine_4 : decode cX9_holdLine 4 = .ok (.getfield 232, 3) := by decide +kernel
theorem dX9_holdLine_7 : decode cX9_holdLine 7 = .ok (.if_icmp .ge 19, 3) := by decide +kernel
theorem dX9_holdLine_10 : decode cX9_holdLine 10 = .ok (.aload_n 0, 1) := by decide +kernel
theorem dX9_holdLine_11 : decode cX9_holdLine 11 = .ok (.getfield 49, 3) := by decide +kernel
theorem dX9_holdLine_14 : decode cX9_holdLine 14 = .ok (.iload_n 2, 1) := by decide +kernel
theorem dX9_holdLine_15 : decode cX9_holdLine 15 = .ok (.iaload, 1) := by decide +kernel
theorem dX9_holdLine_16 : decode cX9_holdLine 16 = .ok (.iload_n 1, 1) := by decide +kernel
theorem dX9_holdLine_17 : decode cX9_holdLine 17 = .ok (.if_icmp .eq 9, 3) := by decide +kernel
theorem dX9_holdLine_20 : decode cX9_holdLine 20 = .ok (.iinc 2 1, 3) := by decide +kernel
theorem dX9_holdLine_23 : decode cX9_holdLine 23 = .ok (.goto (-21), 3) := by decide +kernel
theorem dX9_holdLine_26 : decode cX9_holdLine 26 = .ok (.iload_n 2, 1) := by decide +kernel
theorem dX9_holdLine_27 : decode cX9_holdLine 27 = .ok (.aload_n 0, 1) := by decide +kernel
theorem dX9_holdLine_28 : decode cX9_holdLine 28 = .ok (.getfield 232, 3) := by decide +kernel
theorem dX9_holdLine_31 : decode cX9_holdLine 31 = .ok (.if_icmp .ne 66, 3) := by decide +kernel
theorem dX9_holdLine_34 : decode cX9_holdLine 34 = .ok (.aload_n 0, 1) := by decide +kernel
theorem dX9_holdLine_35 : decode cX9_holdLine 35 = .ok (.dup, 1) := by decide +kernel
theorem dX9_holdLine_36 : decode cX9_holdLine 36 = .ok (.getfield 226, 3) := by decide +kernel
theorem dX9_holdLine_39 : decode cX9_holdLine 39 = .ok (.iconst 1, 1) := by decide +kernel
theorem dX9_holdLine_40 : decode cX9_holdLine 40 = .ok (.iadd, 1) := by decide +kernel
theorem dX9_holdLine_41 : decode cX9_holdLine 41 = .ok (.putfield 226, 3) := by decide +kernel
theorem dX9_holdLine_44 : decode cX9_holdLine 44 = .ok (.aload_n 0, 1) := by decide +kernel
theorem dX9_holdLine_45 : decode cX9_holdLine 45 = .ok (.dup, 1) := by decide +kernel
theorem dX9_holdLine_46 : decode cX9_holdLine 46 = .ok (.getfield 229, 3) := by decide +kernel
theorem dX9_holdLine_49 : decode cX9_holdLine 49 = .ok (.aload_n 0, 1) := by decide +kernel
theorem dX9_holdLine_50 : decode cX9_holdLine 50 = .ok (.iload_n 1, 1) := by decide +kernel
theorem dX9_holdLine_51 : decode cX9_holdLine 51 = .ok (.iconst 1, 1) := by decide +kernel
theorem dX9_holdLine_52 : decode cX9_holdLine 52 = .ok (.invokevirtual 238, 3) := by decide +kernel
theorem dX9_holdLine_55 : decode cX9_holdLine 55 = .ok (.iadd, 1) := by decide +kernel
theorem dX9_holdLine_56 : decode cX9_holdLine 56 = .ok (.putfield 229, 3) := by decide +kernel
theorem dX9_holdLine_59 : decode cX9_holdLine 59 = .ok (.aload_n 0, 1) := by decide +kernel
theorem dX9_holdLine_60 : decode cX9_holdLine 60 = .ok (.aload_n 0, 1) := by decide +kernel
theorem dX9_holdLine_61 : decode cX9_holdLine 61 = .ok (.getfield 232, 3) := by decide +kernel
theorem dX9_holdLine_64 : decode cX9_holdLine 64 = .ok (.aload_n 0, 1) := by decide +kernel
theorem dX9_holdLine_65 : decode cX9_holdLine 65 = .ok (.getfield 28, 3) := by decide +kernel
theorem dX9_holdLine_68 : decode cX9_holdLine 68 = .ok (.bipush 81, 2) := by decide +kernel
theorem dX9_holdLine_70 : decode cX9_holdLine 70 = .ok (.iaload, 1) := by decide +kernel
theorem dX9_holdLine_71 : decode cX9_holdLine 71 = .ok (.if_icmp .ge 12, 3) := by decide +kernel
theorem dX9_holdLine_74 : decode cX9_holdLine 74 = .ok (.aload_n 0, 1) := by decide +kernel
theorem dX9_holdLine_75 : decode cX9_holdLine 75 = .ok (.getfield 232, 3) := by decide +kernel
theorem dX9_holdLine_78 : decode cX9_holdLine 78 = .ok (.iconst 1, 1) := by decide +kernel
theorem dX9_holdLine_79 : decode cX9_holdLine 79 = .ok (.iadd, 1) := by decide +kernel
theorem dX9_holdLine_80 : decode cX9_holdLine 80 = .ok (.goto 7, 3) := by decide +kernel
theorem dX9_holdLine_83 : decode cX9_holdLine 83 = .ok (.aload_n 0, 1) := by decide +kernel
theorem dX9_holdLine_84 : decode cX9_holdLine 84 = .ok (.getfield 232, 3) := by decide +kernel
theorem dX9_holdLine_87 : decode cX9_holdLine 87 = .ok (.putfield 232, 3) := by decide +kernel
theorem dX9_holdLine_90 : decode cX9_holdLine 90 = .ok (.aload_n 0, 1) := by decide +kernel
theorem dX9_holdLine_91 : decode cX9_holdLine 91 = .ok (.getfield 232, 3) := by decide +kernel
theorem dX9_holdLine_94 : decode cX9_holdLine 94 = .ok (.iconst 1, 1) := by decide +kernel
theorem dX9_holdLine_95 : decode cX9_holdLine 95 = .ok (.isub, 1) := by decide +kernel
theorem dX9_holdLine_96 : decode cX9_holdLine 96 = .ok (.istore_n 2, 1) := by decide +kernel
theorem dX9_holdLine_97 : decode cX9_holdLine 97 = .ok (.iload_n 2, 1) := by decide +kernel
theorem dX9_holdLine_98 : decode cX9_holdLine 98 = .ok (.istore_n 3, 1) := by decide +kernel
theorem dX9_holdLine_99 : decode cX9_holdLine 99 = .ok (.iload_n 3, 1) := by decide +kernel
theorem dX9_holdLine_100 : decode cX9_holdLine 100 = .ok (.ifCond .le 23, 3) := by decide +kernel
theorem dX9_holdLine_103 : decode cX9_holdLine 103 = .ok (.aload_n 0, 1) := by decide +kernel
theorem dX9_holdLine_104 : decode cX9_holdLine 104 = .ok (.getfield 49, 3) := by decide +kernel
theorem dX9_holdLine_107 : decode cX9_holdLine 107 = .ok (.iload_n 3, 1) := by decide +kernel
theorem dX9_holdLine_108 : decode cX9_holdLine 108 = .ok (.aload_n 0, 1) := by decide +kernel
theorem dX9_holdLine_109 : decode cX9_holdLine 109 = .ok (.getfield 49, 3) := by decide +kernel
theorem dX9_holdLine_112 : decode cX9_holdLine 112 = .ok (.iload_n 3, 1) := by decide +kernel
theorem dX9_holdLine_113 : decode cX9_holdLine 113 = .ok (.iconst 1, 1) := by decide +kernel
theorem dX9_holdLine_114 : decode cX9_holdLine 114 = .ok (.isub, 1) := by decide +kernel
theorem dX9_holdLine_115 : decode cX9_holdLine 115 = .ok (.iaload, 1) := by decide +kernel
theorem dX9_holdLine_116 : decode cX9_holdLine 116 = .ok (.iastore, 1) := by decide +kernel
theorem dX9_holdLine_117 : decode cX9_holdLine 117 = .ok (.iinc 3 (-1), 3) := by decide +kernel
theorem dX9_holdLine_120 : decode cX9_holdLine 120 = .ok (.goto (-21), 3) := by decide +kernel
theorem dX9_holdLine_123 : decode cX9_holdLine 123 = .ok (.aload_n 0, 1) := by decide +kernel
theorem dX9_holdLine_124 : decode cX9_holdLine 124 = .ok (.getfield 49, 3) := by decide +kernel
theorem dX9_holdLine_127 : decode cX9_holdLine 127 = .ok (.iconst 0, 1) := by decide +kernel
theorem dX9_holdLine_128 : decode cX9_holdLine 128 = .ok (.iload_n 1, 1) := by decide +kernel
theorem dX9_holdLine_129 : decode cX9_holdLine 129 = .ok (.iastore, 1) := by decide +kernel
theorem dX9_holdLine_130 : decode cX9_holdLine 130 = .ok (.return_, 1) := by decide +kernel
theorem dX9_simple_0 : decode cX9_simple 0 = .ok (.iload_n 1, 1) := by decide +kernel
theorem dX9_simple_1 : decode cX9_simple 1 = .ok (.lookupswitch 151 #[(97, 59), (108, 117), (109, 75), (112, 130), (115, 104), (120, 91)], 59) := by decide +kernel
theorem dX9_simple_60 : decode cX9_simple 60 = .ok (.aload_n 0, 1) := by decide +kernel
theorem dX9_simple_61 : decode cX9_simple 61 = .ok (.aload_n 0, 1) := by decide +kernel
theorem dX9_simple_62 : decode cX9_simple 62 = .ok (.getfield 214, 3) := by decide +kernel
theorem dX9_simple_65 : decode cX9_simple 65 = .ok (.iload_n 2, 1) := by decide +kernel
theorem dX9_simple_66 : decode cX9_simple 66 = .ok (.iadd, 1) := by decide +kernel
theorem dX9_simple_67 : decode cX9_simple 67 = .ok (.ldc 241, 2) := by decide +kernel
theorem dX9_simple_69 : decode cX9_simple 69 = .ok (.irem, 1) := by decide +kernel
theorem dX9_simple_70 : decode cX9_simple 70 = .ok (.putfield 214, 3) := by decide +kernel
theorem dX9_simple_73 : decode cX9_simple 73 = .ok (.goto 107, 3) := by decide +kernel
theorem dX9_simple_76 : decode cX9_simple 76 = .ok (.aload_n 0, 1) := by decide +kernel
theorem dX9_simple_77 : decode cX9_simple 77 = .ok (.aload_n 0, 1) := by decide +kernel
theorem dX9_simple_78 : decode cX9_simple 78 = .ok (.getfield 214, 3) := by decide +kernel
theorem dX9_simple_81 : decode cX9_simple 81 = .ok (.iload_n 2, 1) := by decide +kernel
theorem dX9_simple_82 : decode cX9_simple 82 = .ok (.imul, 1) := by decide +kernel
theorem dX9_simple_83 : decode cX9_simple 83 = .ok (.ldc 241, 2) := by decide +kernel
theorem dX9_simple_85 : decode cX9_simple 85 = .ok (.irem, 1) := by decide +kernel
theorem dX9_simple_86 : decode cX9_simple 86 = .ok (.putfield 214, 3) := by decide +kernel
theorem dX9_simple_89 : decode cX9_simple 89 = .ok (.goto 91, 3) := by decide +kernel
theorem dX9_simple_92 : decode cX9_simple 92 = .ok (.aload_n 0, 1) := by decide +kernel
theorem dX9_simple_93 : decode cX9_simple 93 = .ok (.aload_n 0, 1) := by decide +kernel
theorem dX9_simple_94 : decode cX9_simple 94 = .ok (.getfield 214, 3) := by decide +kernel
theorem dX9_simple_97 : decode cX9_simple 97 = .ok (.iload_n 2, 1) := by decide +kernel
theorem dX9_simple_98 : decode cX9_simple 98 = .ok (.ixor, 1) := by decide +kernel
theorem dX9_simple_99 : decode cX9_simple 99 = .ok (.putfield 214, 3) := by decide +kernel
theorem dX9_simple_102 : decode cX9_simple 102 = .ok (.goto 78, 3) := by decide +kernel
theorem dX9_simple_105 : decode cX9_simple 105 = .ok (.aload_n 0, 1) := by decide +kernel
theorem dX9_simple_106 : decode cX9_simple 106 = .ok (.getfield 43, 3) := by decide +kernel
theorem dX9_simple_109 : decode cX9_simple 109 = .ok (.iload_n 2, 1) := by decide +kernel
theorem dX9_simple_110 : decode cX9_simple 110 = .ok (.aload_n 0, 1) := by decide +kernel
theorem dX9_simple_111 : decode cX9_simple 111 = .ok (.getfield 214, 3) := by decide +kernel
theorem dX9_simple_114 : decode cX9_simple 114 = .ok (.iastore, 1) := by decide +kernel
theorem dX9_simple_115 : decode cX9_simple 115 = .ok (.goto 65, 3) := by decide +kernel
theorem dX9_simple_118 : decode cX9_simple 118 = .ok (.aload_n 0, 1) := by decide +kernel
theorem dX9_simple_119 : decode cX9_simple 119 = .ok (.aload_n 0, 1) := by decide +kernel
theorem dX9_simple_120 : decode cX9_simple 120 = .ok (.getfield 43, 3) := by decide +kernel
theorem dX9_simple_123 : decode cX9_simple 123 = .ok (.iload_n 2, 1) := by decide +kernel
theorem dX9_simple_124 : decode cX9_simple 124 = .ok (.iaload, 1) := by decide +kernel
theorem dX9_simple_125 : decode cX9_simple 125 = .ok (.putfield 214, 3) := by decide +kernel
theorem dX9_simple_128 : decode cX9_simple 128 = .ok (.goto 52, 3) := by decide +kernel
theorem dX9_simple_131 : decode cX9_simple 131 = .ok (.aload_n 0, 1) := by decide +kernel
theorem dX9_simple_132 : decode cX9_simple 132 = .ok (.aload_n 0, 1) := by decide +kernel
theorem dX9_simple_133 : decode cX9_simple 133 = .ok (.getfield 214, 3) := by decide +kernel
theorem dX9_simple_136 : decode cX9_simple 136 = .ok (.aload_n 0, 1) := by decide +kernel
theorem dX9_simple_137 : decode cX9_simple 137 = .ok (.getfield 43, 3) := by decide +kernel
theorem dX9_simple_140 : decode cX9_simple 140 = .ok (.iload_n 2, 1) := by decide +kernel
theorem dX9_simple_141 : decode cX9_simple 141 = .ok (.iaload, 1) := by decide +kernel
theorem dX9_simple_142 : decode cX9_simple 142 = .ok (.iadd, 1) := by decide +kernel
theorem dX9_simple_143 : decode cX9_simple 143 = .ok (.ldc 241, 2) := by decide +kernel
theorem dX9_simple_145 : decode cX9_simple 145 = .ok (.irem, 1) := by decide +kernel
theorem dX9_simple_146 : decode cX9_simple 146 = .ok (.putfield 214, 3) := by decide +kernel
theorem dX9_simple_149 : decode cX9_simple 149 = .ok (.goto 31, 3) := by decide +kernel
theorem dX9_simple_152 : decode cX9_simple 152 = .ok (.aload_n 0, 1) := by decide +kernel
theorem dX9_simple_153 : decode cX9_simple 153 = .ok (.getfield 46, 3) := by decide +kernel
theorem dX9_simple_156 : decode cX9_simple 156 = .ok (.aload_n 0, 1) := by decide +kernel
theorem dX9_simple_157 : decode cX9_simple 157 = .ok (.getfield 220, 3) := by decide +kernel
theorem dX9_simple_160 : decode cX9_simple 160 = .ok (.aload_n 0, 1) := by decide +kernel
theorem dX9_simple_161 : decode cX9_simple 161 = .ok (.getfield 214, 3) := by decide +kernel
theorem dX9_simple_164 : decode cX9_simple 164 = .ok (.iload_n 2, 1) := by decide +kernel
theorem dX9_simple_165 : decode cX9_simple 165 = .ok (.iadd, 1) := by decide +kernel
theorem dX9_simple_166 : decode cX9_simple 166 = .ok (.ldc 241, 2) := by decide +kernel
theorem dX9_simple_168 : decode cX9_simple 168 = .ok (.irem, 1) := by decide +kernel
theorem dX9_simple_169 : decode cX9_simple 169 = .ok (.iastore, 1) := by decide +kernel
theorem dX9_simple_170 : decode cX9_simple 170 = .ok (.aload_n 0, 1) := by decide +kernel
theorem dX9_simple_171 : decode cX9_simple 171 = .ok (.dup, 1) := by decide +kernel
theorem dX9_simple_172 : decode cX9_simple 172 = .ok (.getfield 220, 3) := by decide +kernel
theorem dX9_simple_175 : decode cX9_simple 175 = .ok (.iconst 1, 1) := by decide +kernel
theorem dX9_simple_176 : decode cX9_simple 176 = .ok (.iadd, 1) := by decide +kernel
theorem dX9_simple_177 : decode cX9_simple 177 = .ok (.putfield 220, 3) := by decide +kernel
theorem dX9_simple_180 : decode cX9_simple 180 = .ok (.return_, 1) := by decide +kernel
theorem dX9_oneStep_0 : decode cX9_oneStep 0 = .ok (.aload_n 0, 1) := by decide +kernel
theorem dX9_oneStep_1 : decode cX9_oneStep 1 = .ok (.getfield 19, 3) := by decide +kernel
theorem dX9_oneStep_4 : decode cX9_oneStep 4 = .ok (.aload_n 0, 1) := by decide +kernel
theorem dX9_oneStep_5 : decode cX9_oneStep 5 = .ok (.getfield 211, 3) := by decide +kernel
theorem dX9_oneStep_8 : decode cX9_oneStep 8 = .ok (.iaload, 1) := by decide +kernel
theorem dX9_oneStep_9 : decode cX9_oneStep 9 = .ok (.istore_n 1, 1) := by decide +kernel
theorem dX9_oneStep_10 : decode cX9_oneStep 10 = .ok (.aload_n 0, 1) := by decide +kernel
theorem dX9_oneStep_11 : decode cX9_oneStep 11 = .ok (.getfield 22, 3) := by decide +kernel
theorem dX9_oneStep_14 : decode cX9_oneStep 14 = .ok (.aload_n 0, 1) := by decide +kernel
theorem dX9_oneStep_15 : decode cX9_oneStep 15 = .ok (.getfield 211, 3) := by decide +kernel
theorem dX9_oneStep_18 : decode cX9_oneStep 18 = .ok (.iaload, 1) := by decide +kernel
theorem dX9_oneStep_19 : decode cX9_oneStep 19 = .ok (.istore_n 2, 1) := by decide +kernel
theorem dX9_oneStep_20 : decode cX9_oneStep 20 = .ok (.aload_n 0, 1) := by decide +kernel
theorem dX9_oneStep_21 : decode cX9_oneStep 21 = .ok (.getfield 211, 3) := by decide +kernel
theorem dX9_oneStep_24 : decode cX9_oneStep 24 = .ok (.iconst 1, 1) := by decide +kernel
theorem dX9_oneStep_25 : decode cX9_oneStep 25 = .ok (.iadd, 1) := by decide +kernel
theorem dX9_oneStep_26 : decode cX9_oneStep 26 = .ok (.aload_n 0, 1) := by decide +kernel
theorem dX9_oneStep_27 : decode cX9_oneStep 27 = .ok (.getfield 103, 3) := by decide +kernel
theorem dX9_oneStep_30 : decode cX9_oneStep 30 = .ok (.if_icmp .ge 12, 3) := by decide +kernel
theorem dX9_oneStep_33 : decode cX9_oneStep 33 = .ok (.aload_n 0, 1) := by decide +kernel
theorem dX9_oneStep_34 : decode cX9_oneStep 34 = .ok (.getfield 211, 3) := by decide +kernel
theorem dX9_oneStep_37 : decode cX9_oneStep 37 = .ok (.iconst 1, 1) := by decide +kernel
theorem dX9_oneStep_38 : decode cX9_oneStep 38 = .ok (.iadd, 1) := by decide +kernel
theorem dX9_oneStep_39 : decode cX9_oneStep 39 = .ok (.goto 5, 3) := by decide +kernel
theorem dX9_oneStep_42 : decode cX9_oneStep 42 = .ok (.bipush (-4), 2) := by decide +kernel
theorem dX9_oneStep_44 : decode cX9_oneStep 44 = .ok (.istore_n 3, 1) := by decide +kernel
theorem dX9_oneStep_45 : decode cX9_oneStep 45 = .ok (.aload_n 0, 1) := by decide +kernel
theorem dX9_oneStep_46 : decode cX9_oneStep 46 = .ok (.getfield 208, 3) := by decide +kernel
theorem dX9_oneStep_49 : decode cX9_oneStep 49 = .ok (.iconst 1, 1) := by decide +kernel
theorem dX9_oneStep_50 : decode cX9_oneStep 50 = .ok (.if_icmp .ne 19, 3) := by decide +kernel
theorem dX9_oneStep_53 : decode cX9_oneStep 53 = .ok (.aload_n 0, 1) := by decide +kernel
theorem dX9_oneStep_54 : decode cX9_oneStep 54 = .ok (.aload_n 0, 1) := by decide +kernel
theorem dX9_oneStep_55 : decode cX9_oneStep 55 = .ok (.getfield 211, 3) := by decide +kernel
theorem dX9_oneStep_58 : decode cX9_oneStep 58 = .ok (.aload_n 0, 1) := by decide +kernel
theorem dX9_oneStep_59 : decode cX9_oneStep 59 = .ok (.getfield 28, 3) := by decide +kernel
theorem dX9_oneStep_62 : decode cX9_oneStep 62 = .ok (.bipush 80, 2) := by decide +kernel
theorem dX9_oneStep_64 : decode cX9_oneStep 64 = .ok (.iaload, 1) := by decide +kernel
theorem dX9_oneStep_65 : decode cX9_oneStep 65 = .ok (.idiv, 1) := by decide +kernel
theorem dX9_oneStep_66 : decode cX9_oneStep 66 = .ok (.invokevirtual 242, 3) := by decide +kernel
theorem dX9_oneStep_69 : decode cX9_oneStep 69 = .ok (.aload_n 0, 1) := by decide +kernel
theorem dX9_oneStep_70 : decode cX9_oneStep 70 = .ok (.dup, 1) := by decide +kernel
theorem dX9_oneStep_71 : decode cX9_oneStep 71 = .ok (.getfield 217, 3) := by decide +kernel
theorem dX9_oneStep_74 : decode cX9_oneStep 74 = .ok (.iconst 1, 1) := by decide +kernel
theorem dX9_oneStep_75 : decode cX9_oneStep 75 = .ok (.iadd, 1) := by decide +kernel
theorem dX9_oneStep_76 : decode cX9_oneStep 76 = .ok (.putfield 217, 3) := by decide +kernel
theorem dX9_oneStep_79 : decode cX9_oneStep 79 = .ok (.iload_n 1, 1) := by decide +kernel
theorem dX9_oneStep_80 : decode cX9_oneStep 80 = .ok (.invokestatic 86, 3) := by decide +kernel
theorem dX9_oneStep_83 : decode cX9_oneStep 83 = .ok (.ifCond .eq 12, 3) := by decide +kernel
theorem dX9_oneStep_86 : decode cX9_oneStep 86 = .ok (.aload_n 0, 1) := by decide +kernel
theorem dX9_oneStep_87 : decode cX9_oneStep 87 = .ok (.iload_n 1, 1) := by decide +kernel
theorem dX9_oneStep_88 : decode cX9_oneStep 88 = .ok (.iload_n 2, 1) := by decide +kernel
theorem dX9_oneStep_89 : decode cX9_oneStep 89 = .ok (.invokevirtual 246, 3) := by decide +kernel
theorem dX9_oneStep_92 : decode cX9_oneStep 92 = .ok (.goto 68, 3) := by decide +kernel
theorem dX9_oneStep_95 : decode cX9_oneStep 95 = .ok (.iload_n 1, 1) := by decide +kernel
theorem dX9_oneStep_96 : decode cX9_oneStep 96 = .ok (.bipush 106, 2) := by decide +kernel
theorem dX9_oneStep_98 : decode cX9_oneStep 98 = .ok (.if_icmp .eq 16, 3) := by decide +kernel
theorem dX9_oneStep_101 : decode cX9_oneStep 101 = .ok (.iload_n 1, 1) := by decide +kernel
theorem dX9_oneStep_102 : decode cX9_oneStep 102 = .ok (.bipush 122, 2) := by decide +kernel
theorem dX9_oneStep_104 : decode cX9_oneStep 104 = .ok (.if_icmp .ne 15, 3) := by decide +kernel
theorem dX9_oneStep_107 : decode cX9_oneStep 107 = .ok (.aload_n 0, 1) := by decide +kernel
theorem dX9_oneStep_108 : decode cX9_oneStep 108 = .ok (.getfield 214, 3) := by decide +kernel
theorem dX9_oneStep_111 : decode cX9_oneStep 111 = .ok (.ifCond .ne 8, 3) := by decide +kernel
theorem dX9_oneStep_114 : decode cX9_oneStep 114 = .ok (.iload_n 2, 1) := by decide +kernel
theorem dX9_oneStep_115 : decode cX9_oneStep 115 = .ok (.istore_n 3, 1) := by decide +kernel
theorem dX9_oneStep_116 : decode cX9_oneStep 116 = .ok (.goto 44, 3) := by decide +kernel
theorem dX9_oneStep_119 : decode cX9_oneStep 119 = .ok (.iload_n 1, 1) := by decide +kernel
theorem dX9_oneStep_120 : decode cX9_oneStep 120 = .ok (.bipush 107, 2) := by decide +kernel
theorem dX9_oneStep_122 : decode cX9_oneStep 122 = .ok (.if_icmp .ne 15, 3) := by decide +kernel
theorem dX9_oneStep_125 : decode cX9_oneStep 125 = .ok (.aload_n 0, 1) := by decide +kernel
theorem dX9_oneStep_126 : decode cX9_oneStep 126 = .ok (.aload_n 0, 1) := by decide +kernel
theorem dX9_oneStep_127 : decode cX9_oneStep 127 = .ok (.iload_n 2, 1) := by decide +kernel
theorem dX9_oneStep_128 : decode cX9_oneStep 128 = .ok (.invokevirtual 235, 3) := by decide +kernel
theorem dX9_oneStep_131 : decode cX9_oneStep 131 = .ok (.putfield 214, 3) := by decide +kernel
theorem dX9_oneStep_134 : decode cX9_oneStep 134 = .ok (.goto 26, 3) := by decide +kernel
theorem dX9_oneStep_137 : decode cX9_oneStep 137 = .ok (.iload_n 1, 1) := by decide +kernel
theorem dX9_oneStep_138 : decode cX9_oneStep 138 = .ok (.bipush 113, 2) := by decide +kernel
theorem dX9_oneStep_140 : decode cX9_oneStep 140 = .ok (.if_icmp .ne 11, 3) := by decide +kernel
theorem dX9_oneStep_143 : decode cX9_oneStep 143 = .ok (.aload_n 0, 1) := by decide +kernel
theorem dX9_oneStep_144 : decode cX9_oneStep 144 = .ok (.invokevirtual 249, 3) := by decide +kernel
theorem dX9_oneStep_147 : decode cX9_oneStep 147 = .ok (.istore_n 3, 1) := by decide +kernel
theorem dX9_oneStep_148 : decode cX9_oneStep 148 = .ok (.goto 12, 3) := by decide +kernel
theorem dX9_oneStep_151 : decode cX9_oneStep 151 = .ok (.iload_n 1, 1) := by decide +kernel
theorem dX9_oneStep_152 : decode cX9_oneStep 152 = .ok (.bipush 104, 2) := by decide +kernel
theorem dX9_oneStep_154 : decode cX9_oneStep 154 = .ok (.if_icmp .ne 6, 3) := by decide +kernel
theorem dX9_oneStep_157 : decode cX9_oneStep 157 = .ok (.bipush (-4), 2) := by decide +kernel
theorem dX9_oneStep_159 : decode cX9_oneStep 159 = .ok (.istore_n 3, 1) := by decide +kernel
theorem dX9_oneStep_160 : decode cX9_oneStep 160 = .ok (.aload_n 0, 1) := by decide +kernel
theorem dX9_oneStep_161 : decode cX9_oneStep 161 = .ok (.iload_n 3, 1) := by decide +kernel
theorem dX9_oneStep_162 : decode cX9_oneStep 162 = .ok (.putfield 211, 3) := by decide +kernel
theorem dX9_oneStep_165 : decode cX9_oneStep 165 = .ok (.return_, 1) := by decide +kernel
theorem dX9_step_0 : decode cX9_step 0 = .ok (.iload_n 1, 1) := by decide +kernel
theorem dX9_step_1 : decode cX9_step 1 = .ok (.i2l, 1) := by decide +kernel
theorem dX9_step_2 : decode cX9_step 2 = .ok (.lconst 1, 1) := by decide +kernel
theorem dX9_step_3 : decode cX9_step 3 = .ok (.ldc2_w 252, 3) := by decide +kernel
theorem dX9_step_6 : decode cX9_step 6 = .ok (.invokestatic 71, 3) := by decide +kernel
theorem dX9_step_9 : decode cX9_step 9 = .ok (.ifCond .ne 5, 3) := by decide +kernel
theorem dX9_step_12 : decode cX9_step 12 = .ok (.iconst (-1), 1) := by decide +kernel
theorem dX9_step_13 : decode cX9_step 13 = .ok (.ireturn, 1) := by decide +kernel
theorem dX9_step_14 : decode cX9_step 14 = .ok (.aload_n 0, 1) := by decide +kernel
theorem dX9_step_15 : decode cX9_step 15 = .ok (.getfield 109, 3) := by decide +kernel
theorem dX9_step_18 : decode cX9_step 18 = .ok (.ifCond .eq 12, 3) := by decide +kernel
theorem dX9_step_21 : decode cX9_step 21 = .ok (.aload_n 0, 1) := by decide +kernel
theorem dX9_step_22 : decode cX9_step 22 = .ok (.getfield 211, 3) := by decide +kernel
theorem dX9_step_25 : decode cX9_step 25 = .ok (.bipush (-4), 2) := by decide +kernel
theorem dX9_step_27 : decode cX9_step 27 = .ok (.if_icmp .ne 6, 3) := by decide +kernel
theorem dX9_step_30 : decode cX9_step 30 = .ok (.bipush (-2), 2) := by decide +kernel
theorem dX9_step_32 : decode cX9_step 32 = .ok (.ireturn, 1) := by decide +kernel
theorem dX9_step_33 : decode cX9_step 33 = .ok (.iconst 0, 1) := by decide +kernel
theorem dX9_step_34 : decode cX9_step 34 = .ok (.istore_n 2, 1) := by decide +kernel
theorem dX9_step_35 : decode cX9_step 35 = .ok (.iload_n 2, 1) := by decide +kernel
theorem dX9_step_36 : decode cX9_step 36 = .ok (.iload_n 1, 1) := by decide +kernel
theorem dX9_step_37 : decode cX9_step 37 = .ok (.if_icmp .ge 20, 3) := by decide +kernel
theorem dX9_step_40 : decode cX9_step 40 = .ok (.aload_n 0, 1) := by decide +kernel
theorem dX9_step_41 : decode cX9_step 41 = .ok (.invokevirtual 254, 3) := by decide +kernel
theorem dX9_step_44 : decode cX9_step 44 = .ok (.ifCond .eq 13, 3) := by decide +kernel
theorem dX9_step_47 : decode cX9_step 47 = .ok (.aload_n 0, 1) := by decide +kernel
theorem dX9_step_48 : decode cX9_step 48 = .ok (.invokevirtual 257, 3) := by decide +kernel
theorem dX9_step_51 : decode cX9_step 51 = .ok (.iinc 2 1, 3) := by decide +kernel
theorem dX9_step_54 : decode cX9_step 54 = .ok (.goto (-19), 3) := by decide +kernel
theorem dX9_step_57 : decode cX9_step 57 = .ok (.iload_n 2, 1) := by decide +kernel
theorem dX9_step_58 : decode cX9_step 58 = .ok (.ireturn, 1) := by decide +kernel
theorem dX9_now_0 : decode cX9_now 0 = .ok (.iload_n 1, 1) := by decide +kernel
theorem dX9_now_1 : decode cX9_now 1 = .ok (.i2l, 1) := by decide +kernel
theorem dX9_now_2 : decode cX9_now 2 = .ok (.lconst 0, 1) := by decide +kernel
theorem dX9_now_3 : decode cX9_now 3 = .ok (.ldc2_w 176, 3) := by decide +kernel
theorem dX9_now_6 : decode cX9_now 6 = .ok (.invokestatic 71, 3) := by decide +kernel
theorem dX9_now_9 : decode cX9_now 9 = .ok (.ifCond .ne 5, 3) := by decide +kernel
theorem dX9_now_12 : decode cX9_now 12 = .ok (.iconst (-1), 1) := by decide +kernel
theorem dX9_now_13 : decode cX9_now 13 = .ok (.ireturn, 1) := by decide +kernel
theorem dX9_now_14 : decode cX9_now 14 = .ok (.aload_n 0, 1) := by decide +kernel
theorem dX9_now_15 : decode cX9_now 15 = .ok (.getfield 109, 3) := by decide +kernel
theorem dX9_now_18 : decode cX9_now 18 = .ok (.ifCond .ne 6, 3) := by decide +kernel
theorem dX9_now_21 : decode cX9_now 21 = .ok (.bipush (-2), 2) := by decide +kernel
theorem dX9_now_23 : decode cX9_now 23 = .ok (.ireturn, 1) := by decide +kernel
theorem dX9_now_24 : decode cX9_now 24 = .ok (.iload_n 1, 1) := by decide +kernel
theorem dX9_now_25 : decode cX9_now 25 = .ok (.tableswitch 87 0 7 #[47, 52, 57, 62, 67, 72, 77, 82], 47) := by decide +kernel
theorem dX9_now_72 : decode cX9_now 72 = .ok (.aload_n 0, 1) := by decide +kernel
theorem dX9_now_73 : decode cX9_now 73 = .ok (.getfield 211, 3) := by decide +kernel
theorem dX9_now_76 : decode cX9_now 76 = .ok (.ireturn, 1) := by decide +kernel
theorem dX9_now_77 : decode cX9_now 77 = .ok (.aload_n 0, 1) := by decide +kernel
theorem dX9_now_78 : decode cX9_now 78 = .ok (.getfield 214, 3) := by decide +kernel
theorem dX9_now_81 : decode cX9_now 81 = .ok (.ireturn, 1) := by decide +kernel
theorem dX9_now_82 : decode cX9_now 82 = .ok (.aload_n 0, 1) := by decide +kernel
theorem dX9_now_83 : decode cX9_now 83 = .ok (.getfield 217, 3) := by decide +kernel
theorem dX9_now_86 : decode cX9_now 86 = .ok (.ireturn, 1) := by decide +kernel
theorem dX9_now_87 : decode cX9_now 87 = .ok (.aload_n 0, 1) := by decide +kernel
theorem dX9_now_88 : decode cX9_now 88 = .ok (.getfield 220, 3) := by decide +kernel
theorem dX9_now_91 : decode cX9_now 91 = .ok (.ireturn, 1) := by decide +kernel
theorem dX9_now_92 : decode cX9_now 92 = .ok (.aload_n 0, 1) := by decide +kernel
theorem dX9_now_93 : decode cX9_now 93 = .ok (.getfield 223, 3) := by decide +kernel
theorem dX9_now_96 : decode cX9_now 96 = .ok (.ireturn, 1) := by decide +kernel
theorem dX9_now_97 : decode cX9_now 97 = .ok (.aload_n 0, 1) := by decide +kernel
theorem dX9_now_98 : decode cX9_now 98 = .ok (.getfield 226, 3) := by decide +kernel
theorem dX9_now_101 : decode cX9_now 101 = .ok (.ireturn, 1) := by decide +kernel
theorem dX9_now_102 : decode cX9_now 102 = .ok (.aload_n 0, 1) := by decide +kernel
theorem dX9_now_103 : decode cX9_now 103 = .ok (.getfield 229, 3) := by decide +kernel
theorem dX9_now_106 : decode cX9_now 106 = .ok (.ireturn, 1) := by decide +kernel
theorem dX9_now_107 : decode cX9_now 107 = .ok (.aload_n 0, 1) := by decide +kernel
theorem dX9_now_108 : decode cX9_now 108 = .ok (.getfield 232, 3) := by decide +kernel
theorem dX9_now_111 : decode cX9_now 111 = .ok (.ireturn, 1) := by decide +kernel
theorem dX9_now_112 : decode cX9_now 112 = .ok (.aload_n 0, 1) := by decide +kernel
theorem dX9_now_113 : decode cX9_now 113 = .ok (.getfield 208, 3) := by decide +kernel
theorem dX9_now_116 : decode cX9_now 116 = .ok (.ireturn, 1) := by decide +kernel
theorem dX9_held_0 : decode cX9_held 0 = .ok (.iload_n 1, 1) := by decide +kernel
theorem dX9_held_1 : decode cX9_held 1 = .ok (.ifCond .ge 5, 3) := by decide +kernel
theorem dX9_held_4 : decode cX9_held 4 = .ok (.iconst (-1), 1) := by decide +kernel
theorem dX9_held_5 : decode cX9_held 5 = .ok (.ireturn, 1) := by decide +kernel
theorem dX9_held_6 : decode cX9_held 6 = .ok (.aload_n 0, 1) := by decide +kernel
theorem dX9_held_7 : decode cX9_held 7 = .ok (.getfield 109, 3) := by decide +kernel
theorem dX9_held_10 : decode cX9_held 10 = .ok (.ifCond .ne 8, 3) := by decide +kernel
theorem dX9_held_13 : decode cX9_held 13 = .ok (.bipush (-2), 2) := by decide +kernel
theorem dX9_held_15 : decode cX9_held 15 = .ok (.goto 22, 3) := by decide +kernel
theorem dX9_held_18 : decode cX9_held 18 = .ok (.iload_n 1, 1) := by decide +kernel
theorem dX9_held_19 : decode cX9_held 19 = .ok (.aload_n 0, 1) := by decide +kernel
theorem dX9_held_20 : decode cX9_held 20 = .ok (.getfield 232, 3) := by decide +kernel
theorem dX9_held_23 : decode cX9_held 23 = .ok (.if_icmp .ge 12, 3) := by decide +kernel
theorem dX9_held_26 : decode cX9_held 26 = .ok (.aload_n 0, 1) := by decide +kernel
theorem dX9_held_27 : decode cX9_held 27 = .ok (.getfield 49, 3) := by decide +kernel
theorem dX9_held_30 : decode cX9_held 30 = .ok (.iload_n 1, 1) := by decide +kernel
theorem dX9_held_31 : decode cX9_held 31 = .ok (.iaload, 1) := by decide +kernel
theorem dX9_held_32 : decode cX9_held 32 = .ok (.goto 5, 3) := by decide +kernel
theorem dX9_held_35 : decode cX9_held 35 = .ok (.bipush (-4), 2) := by decide +kernel
theorem dX9_held_37 : decode cX9_held 37 = .ok (.ireturn, 1) := by decide +kernel
theorem dX9_cell_0 : decode cX9_cell 0 = .ok (.iload_n 1, 1) := by decide +kernel
theorem dX9_cell_1 : decode cX9_cell 1 = .ok (.i2l, 1) := by decide +kernel
theorem dX9_cell_2 : decode cX9_cell 2 = .ok (.lconst 0, 1) := by decide +kernel
theorem dX9_cell_3 : decode cX9_cell 3 = .ok (.ldc2_w 260, 3) := by decide +kernel
theorem dX9_cell_6 : decode cX9_cell 6 = .ok (.invokestatic 71, 3) := by decide +kernel
theorem dX9_cell_9 : decode cX9_cell 9 = .ok (.ifCond .ne 5, 3) := by decide +kernel
theorem dX9_cell_12 : decode cX9_cell 12 = .ok (.iconst (-1), 1) := by decide +kernel
theorem dX9_cell_13 : decode cX9_cell 13 = .ok (.ireturn, 1) := by decide +kernel
theorem dX9_cell_14 : decode cX9_cell 14 = .ok (.aload_n 0, 1) := by decide +kernel
theorem dX9_cell_15 : decode cX9_cell 15 = .ok (.getfield 109, 3) := by decide +kernel
theorem dX9_cell_18 : decode cX9_cell 18 = .ok (.ifCond .eq 12, 3) := by decide +kernel
theorem dX9_cell_21 : decode cX9_cell 21 = .ok (.aload_n 0, 1) := by decide +kernel
theorem dX9_cell_22 : decode cX9_cell 22 = .ok (.getfield 43, 3) := by decide +kernel
theorem dX9_cell_25 : decode cX9_cell 25 = .ok (.iload_n 1, 1) := by decide +kernel
theorem dX9_cell_26 : decode cX9_cell 26 = .ok (.iaload, 1) := by decide +kernel
theorem dX9_cell_27 : decode cX9_cell 27 = .ok (.goto 5, 3) := by decide +kernel
theorem dX9_cell_30 : decode cX9_cell 30 = .ok (.bipush (-2), 2) := by decide +kernel
theorem dX9_cell_32 : decode cX9_cell 32 = .ok (.ireturn, 1) := by decide +kernel
theorem dX9_out_0 : decode cX9_out 0 = .ok (.iload_n 1, 1) := by decide +kernel
theorem dX9_out_1 : decode cX9_out 1 = .ok (.ifCond .ge 5, 3) := by decide +kernel
theorem dX9_out_4 : decode cX9_out 4 = .ok (.iconst (-1), 1) := by decide +kernel
theorem dX9_out_5 : decode cX9_out 5 = .ok (.ireturn, 1) := by decide +kernel
theorem dX9_out_6 : decode cX9_out 6 = .ok (.aload_n 0, 1) := by decide +kernel
theorem dX9_out_7 : decode cX9_out 7 = .ok (.getfield 109, 3) := by decide +kernel
theorem dX9_out_10 : decode cX9_out 10 = .ok (.ifCond .ne 8, 3) := by decide +kernel
theorem dX9_out_13 : decode cX9_out 13 = .ok (.bipush (-2), 2) := by decide +kernel
theorem dX9_out_15 : decode cX9_out 15 = .ok (.goto 22, 3) := by decide +kernel
theorem dX9_out_18 : decode cX9_out 18 = .ok (.iload_n 1, 1) := by decide +kernel
theorem dX9_out_19 : decode cX9_out 19 = .ok (.aload_n 0, 1) := by decide +kernel
theorem dX9_out_20 : decode cX9_out 20 = .ok (.getfield 220, 3) := by decide +kernel
theorem dX9_out_23 : decode cX9_out 23 = .ok (.if_icmp .ge 12, 3) := by decide +kernel
theorem dX9_out_26 : decode cX9_out 26 = .ok (.aload_n 0, 1) := by decide +kernel
theorem dX9_out_27 : decode cX9_out 27 = .ok (.getfield 46, 3) := by decide +kernel
theorem dX9_out_30 : decode cX9_out 30 = .ok (.iload_n 1, 1) := by decide +kernel
theorem dX9_out_31 : decode cX9_out 31 = .ok (.iaload, 1) := by decide +kernel
theorem dX9_out_32 : decode cX9_out 32 = .ok (.goto 5, 3) := by decide +kernel
theorem dX9_out_35 : decode cX9_out 35 = .ok (.bipush (-4), 2) := by decide +kernel
theorem dX9_out_37 : decode cX9_out 37 = .ok (.ireturn, 1) := by decide +kernel
theorem dX9_count_0 : decode cX9_count 0 = .ok (.iload_n 1, 1) := by decide +kernel
theorem dX9_count_1 : decode cX9_count 1 = .ok (.tableswitch 137 0 8 #[51, 56, 64, 72, 80, 85, 114, 119, 124], 51) := by decide +kernel
theorem dX9_count_52 : decode cX9_count 52 = .ok (.aload_n 0, 1) := by decide +kernel
theorem dX9_count_53 : decode cX9_count 53 = .ok (.getfield 103, 3) := by decide +kernel
theorem dX9_count_56 : decode cX9_count 56 = .ok (.ireturn, 1) := by decide +kernel
theorem dX9_count_57 : decode cX9_count 57 = .ok (.aload_n 0, 1) := by decide +kernel
theorem dX9_count_58 : decode cX9_count 58 = .ok (.getfield 28, 3) := by decide +kernel
theorem dX9_count_61 : decode cX9_count 61 = .ok (.bipush 82, 2) := by decide +kernel
theorem dX9_count_63 : decode cX9_count 63 = .ok (.iaload, 1) := by decide +kernel
theorem dX9_count_64 : decode cX9_count 64 = .ok (.ireturn, 1) := by decide +kernel
theorem dX9_count_65 : decode cX9_count 65 = .ok (.aload_n 0, 1) := by decide +kernel
theorem dX9_count_66 : decode cX9_count 66 = .ok (.getfield 28, 3) := by decide +kernel
theorem dX9_count_69 : decode cX9_count 69 = .ok (.bipush 80, 2) := by decide +kernel
theorem dX9_count_71 : decode cX9_count 71 = .ok (.iaload, 1) := by decide +kernel
theorem dX9_count_72 : decode cX9_count 72 = .ok (.ireturn, 1) := by decide +kernel
theorem dX9_count_73 : decode cX9_count 73 = .ok (.aload_n 0, 1) := by decide +kernel
theorem dX9_count_74 : decode cX9_count 74 = .ok (.getfield 28, 3) := by decide +kernel
theorem dX9_count_77 : decode cX9_count 77 = .ok (.bipush 81, 2) := by decide +kernel
theorem dX9_count_79 : decode cX9_count 79 = .ok (.iaload, 1) := by decide +kernel
theorem dX9_count_80 : decode cX9_count 80 = .ok (.ireturn, 1) := by decide +kernel
theorem dX9_count_81 : decode cX9_count 81 = .ok (.aload_n 0, 1) := by decide +kernel
theorem dX9_count_82 : decode cX9_count 82 = .ok (.invokevirtual 192, 3) := by decide +kernel
theorem dX9_count_85 : decode cX9_count 85 = .ok (.ireturn, 1) := by decide +kernel
theorem dX9_count_86 : decode cX9_count 86 = .ok (.iconst 0, 1) := by decide +kernel
theorem dX9_count_87 : decode cX9_count 87 = .ok (.istore_n 2, 1) := by decide +kernel
theorem dX9_count_88 : decode cX9_count 88 = .ok (.iconst 0, 1) := by decide +kernel
theorem dX9_count_89 : decode cX9_count 89 = .ok (.istore_n 3, 1) := by decide +kernel
theorem dX9_count_90 : decode cX9_count 90 = .ok (.iload_n 3, 1) := by decide +kernel
theorem dX9_count_91 : decode cX9_count 91 = .ok (.aload_n 0, 1) := by decide +kernel
theorem dX9_count_92 : decode cX9_count 92 = .ok (.getfield 103, 3) := by decide +kernel
theorem dX9_count_95 : decode cX9_count 95 = .ok (.if_icmp .ge 18, 3) := by decide +kernel
theorem dX9_count_98 : decode cX9_count 98 = .ok (.iload_n 2, 1) := by decide +kernel
theorem dX9_count_99 : decode cX9_count 99 = .ok (.aload_n 0, 1) := by decide +kernel
theorem dX9_count_100 : decode cX9_count 100 = .ok (.getfield 25, 3) := by decide +kernel
theorem dX9_count_103 : decode cX9_count 103 = .ok (.iload_n 3, 1) := by decide +kernel
theorem dX9_count_104 : decode cX9_count 104 = .ok (.iaload, 1) := by decide +kernel
theorem dX9_count_105 : decode cX9_count 105 = .ok (.iadd, 1) := by decide +kernel
theorem dX9_count_106 : decode cX9_count 106 = .ok (.istore_n 2, 1) := by decide +kernel
theorem dX9_count_107 : decode cX9_count 107 = .ok (.iinc 3 1, 3) := by decide +kernel
theorem dX9_count_110 : decode cX9_count 110 = .ok (.goto (-20), 3) := by decide +kernel
theorem dX9_count_113 : decode cX9_count 113 = .ok (.iload_n 2, 1) := by decide +kernel
theorem dX9_count_114 : decode cX9_count 114 = .ok (.ireturn, 1) := by decide +kernel
theorem dX9_count_115 : decode cX9_count 115 = .ok (.aload_n 0, 1) := by decide +kernel
theorem dX9_count_116 : decode cX9_count 116 = .ok (.getfield 106, 3) := by decide +kernel
theorem dX9_count_119 : decode cX9_count 119 = .ok (.ireturn, 1) := by decide +kernel
theorem dX9_count_120 : decode cX9_count 120 = .ok (.aload_n 0, 1) := by decide +kernel
theorem dX9_count_121 : decode cX9_count 121 = .ok (.getfield 75, 3) := by decide +kernel
theorem dX9_count_124 : decode cX9_count 124 = .ok (.ireturn, 1) := by decide +kernel
theorem dX9_count_125 : decode cX9_count 125 = .ok (.aload_n 0, 1) := by decide +kernel
theorem dX9_count_126 : decode cX9_count 126 = .ok (.getfield 109, 3) := by decide +kernel
theorem dX9_count_129 : decode cX9_count 129 = .ok (.ifCond .eq 7, 3) := by decide +kernel
theorem dX9_count_132 : decode cX9_count 132 = .ok (.iconst 1, 1) := by decide +kernel
theorem dX9_count_133 : decode cX9_count 133 = .ok (.goto 4, 3) := by decide +kernel
theorem dX9_count_136 : decode cX9_count 136 = .ok (.iconst 0, 1) := by decide +kernel
theorem dX9_count_137 : decode cX9_count 137 = .ok (.ireturn, 1) := by decide +kernel
theorem dX9_count_138 : decode cX9_count 138 = .ok (.iconst (-1), 1) := by decide +kernel
theorem dX9_count_139 : decode cX9_count 139 = .ok (.ireturn, 1) := by decide +kernel
theorem dJ11_isValidCodePoint_9a6ad_0 : decode cJ11_isValidCodePoint_9a6ad 0 = .ok (.iload_n 0, 1) := by decide +kernel
theorem dJ11_isValidCodePoint_9a6ad_1 : decode cJ11_isValidCodePoint_9a6ad 1 = .ok (.bipush 16, 2) := by decide +kernel
theorem dJ11_isValidCodePoint_9a6ad_3 : decode cJ11_isValidCodePoint_9a6ad 3 = .ok (.iushr, 1) := by decide +kernel
theorem dJ11_isValidCodePoint_9a6ad_4 : decode cJ11_isValidCodePoint_9a6ad 4 = .ok (.istore_n 1, 1) := by decide +kernel
theorem dJ11_isValidCodePoint_9a6ad_5 : decode cJ11_isValidCodePoint_9a6ad 5 = .ok (.iload_n 1, 1) := by decide +kernel
theorem dJ11_isValidCodePoint_9a6ad_6 : decode cJ11_isValidCodePoint_9a6ad 6 = .ok (.bipush 17, 2) := by decide +kernel
theorem dJ11_isValidCodePoint_9a6ad_8 : decode cJ11_isValidCodePoint_9a6ad 8 = .ok (.if_icmp .ge 7, 3) := by decide +kernel
theorem dJ11_isValidCodePoint_9a6ad_11 : decode cJ11_isValidCodePoint_9a6ad 11 = .ok (.iconst 1, 1) := by decide +kernel
theorem dJ11_isValidCodePoint_9a6ad_12 : decode cJ11_isValidCodePoint_9a6ad 12 = .ok (.goto 4, 3) := by decide +kernel
theorem dJ11_isValidCodePoint_9a6ad_15 : decode cJ11_isValidCodePoint_9a6ad 15 = .ok (.iconst 0, 1) := by decide +kernel
theorem dJ11_isValidCodePoint_9a6ad_16 : decode cJ11_isValidCodePoint_9a6ad 16 = .ok (.ireturn, 1) := by decide +kernel
theorem dJ11_highSurrogate_5068e_0 : decode cJ11_highSurrogate_5068e 0 = .ok (.iload_n 0, 1) := by decide +kernel
theorem dJ11_highSurrogate_5068e_1 : decode cJ11_highSurrogate_5068e 1 = .ok (.bipush 10, 2) := by decide +kernel
theorem dJ11_highSurrogate_5068e_3 : decode cJ11_highSurrogate_5068e 3 = .ok (.iushr, 1) := by decide +kernel
theorem dJ11_highSurrogate_5068e_4 : decode cJ11_highSurrogate_5068e 4 = .ok (.ldc 110, 2) := by decide +kernel
theorem dJ11_highSurrogate_5068e_6 : decode cJ11_highSurrogate_5068e 6 = .ok (.iadd, 1) := by decide +kernel
theorem dJ11_highSurrogate_5068e_7 : decode cJ11_highSurrogate_5068e 7 = .ok (.i2c, 1) := by decide +kernel
theorem dJ11_highSurrogate_5068e_8 : decode cJ11_highSurrogate_5068e 8 = .ok (.ireturn, 1) := by decide +kernel
theorem dJ11_lowSurrogate_5068e_0 : decode cJ11_lowSurrogate_5068e 0 = .ok (.iload_n 0, 1) := by decide +kernel
theorem dJ11_lowSurrogate_5068e_1 : decode cJ11_lowSurrogate_5068e 1 = .ok (.sipush 1023, 3) := by decide +kernel
theorem dJ11_lowSurrogate_5068e_4 : decode cJ11_lowSurrogate_5068e 4 = .ok (.iand, 1) := by decide +kernel
theorem dJ11_lowSurrogate_5068e_5 : decode cJ11_lowSurrogate_5068e 5 = .ok (.ldc 76, 2) := by decide +kernel
theorem dJ11_lowSurrogate_5068e_7 : decode cJ11_lowSurrogate_5068e 7 = .ok (.iadd, 1) := by decide +kernel
theorem dJ11_lowSurrogate_5068e_8 : decode cJ11_lowSurrogate_5068e 8 = .ok (.i2c, 1) := by decide +kernel
theorem dJ11_lowSurrogate_5068e_9 : decode cJ11_lowSurrogate_5068e 9 = .ok (.ireturn, 1) := by decide +kernel
theorem dJ9_max_7cf53_0 : decode cJ9_max_7cf53 0 = .ok (.iload_n 0, 1) := by decide +kernel
theorem dJ9_max_7cf53_1 : decode cJ9_max_7cf53 1 = .ok (.iload_n 1, 1) := by decide +kernel
theorem dJ9_max_7cf53_2 : decode cJ9_max_7cf53 2 = .ok (.if_icmp .lt 7, 3) := by decide +kernel
theorem dJ9_max_7cf53_5 : decode cJ9_max_7cf53 5 = .ok (.iload_n 0, 1) := by decide +kernel
theorem dJ9_max_7cf53_6 : decode cJ9_max_7cf53 6 = .ok (.goto 4, 3) := by decide +kernel
theorem dJ9_max_7cf53_9 : decode cJ9_max_7cf53 9 = .ok (.iload_n 1, 1) := by decide +kernel
theorem dJ9_max_7cf53_10 : decode cJ9_max_7cf53 10 = .ok (.ireturn, 1) := by decide +kernel
theorem dJ9_min_7cf53_0 : decode cJ9_min_7cf53 0 = .ok (.iload_n 0, 1) := by decide +kernel
theorem dJ9_min_7cf53_1 : decode cJ9_min_7cf53 1 = .ok (.iload_n 1, 1) := by decide +kernel
theorem dJ9_min_7cf53_2 : decode cJ9_min_7cf53 2 = .ok (.if_icmp .gt 7, 3) := by decide +kernel
theorem dJ9_min_7cf53_5 : decode cJ9_min_7cf53 5 = .ok (.iload_n 0, 1) := by decide +kernel
theorem dJ9_min_7cf53_6 : decode cJ9_min_7cf53 6 = .ok (.goto 4, 3) := by decide +kernel
theorem dJ9_min_7cf53_9 : decode cJ9_min_7cf53 9 = .ok (.iload_n 1, 1) := by decide +kernel
theorem dJ9_min_7cf53_10 : decode cJ9_min_7cf53 10 = .ok (.ireturn, 1) := by decide +kernel
theorem dJ0_length_8abf5_0 : decode cJ0_length_8abf5 0 = .ok (.aload_n 0, 1) := by decide +kernel
theorem dJ0_length_8abf5_1 : decode cJ0_length_8abf5 1 = .ok (.getfield 9, 3) := by decide +kernel
theorem dJ0_length_8abf5_4 : decode cJ0_length_8abf5 4 = .ok (.arraylength, 1) := by decide +kernel
theorem dJ0_length_8abf5_5 : decode cJ0_length_8abf5 5 = .ok (.aload_n 0, 1) := by decide +kernel
theorem dJ0_length_8abf5_6 : decode cJ0_length_8abf5 6 = .ok (.invokevirtual 335, 3) := by decide +kernel
theorem dJ0_length_8abf5_9 : decode cJ0_length_8abf5 9 = .ok (.ishr, 1) := by decide +kernel
theorem dJ0_length_8abf5_10 : decode cJ0_length_8abf5 10 = .ok (.ireturn, 1) := by decide +kernel
theorem dJ0_charAt_5068e_0 : decode cJ0_charAt_5068e 0 = .ok (.aload_n 0, 1) := by decide +kernel
theorem dJ0_charAt_5068e_1 : decode cJ0_charAt_5068e 1 = .ok (.invokevirtual 492, 3) := by decide +kernel
theorem dJ0_charAt_5068e_4 : decode cJ0_charAt_5068e 4 = .ok (.ifCond .eq 12, 3) := by decide +kernel
theorem dJ0_charAt_5068e_7 : decode cJ0_charAt_5068e 7 = .ok (.aload_n 0, 1) := by decide +kernel
theorem dJ0_charAt_5068e_8 : decode cJ0_charAt_5068e 8 = .ok (.getfield 9, 3) := by decide +kernel
theorem dJ0_charAt_5068e_11 : decode cJ0_charAt_5068e 11 = .ok (.iload_n 1, 1) := by decide +kernel
theorem dJ0_charAt_5068e_12 : decode cJ0_charAt_5068e 12 = .ok (.invokestatic 495, 3) := by decide +kernel
theorem dJ0_charAt_5068e_15 : decode cJ0_charAt_5068e 15 = .ok (.ireturn, 1) := by decide +kernel
theorem dJ0_charAt_5068e_16 : decode cJ0_charAt_5068e 16 = .ok (.aload_n 0, 1) := by decide +kernel
theorem dJ0_charAt_5068e_17 : decode cJ0_charAt_5068e 17 = .ok (.getfield 9, 3) := by decide +kernel
theorem dJ0_charAt_5068e_20 : decode cJ0_charAt_5068e 20 = .ok (.iload_n 1, 1) := by decide +kernel
theorem dJ0_charAt_5068e_21 : decode cJ0_charAt_5068e 21 = .ok (.invokestatic 498, 3) := by decide +kernel
theorem dJ0_charAt_5068e_24 : decode cJ0_charAt_5068e 24 = .ok (.ireturn, 1) := by decide +kernel
theorem dJ0_indexOf_0f7a4_0 : decode cJ0_indexOf_0f7a4 0 = .ok (.aload_n 0, 1) := by decide +kernel
theorem dJ0_indexOf_0f7a4_1 : decode cJ0_indexOf_0f7a4 1 = .ok (.iload_n 1, 1) := by decide +kernel
theorem dJ0_indexOf_0f7a4_2 : decode cJ0_indexOf_0f7a4 2 = .ok (.iconst 0, 1) := by decide +kernel
theorem dJ0_indexOf_0f7a4_3 : decode cJ0_indexOf_0f7a4 3 = .ok (.invokevirtual 633, 3) := by decide +kernel
theorem dJ0_indexOf_0f7a4_6 : decode cJ0_indexOf_0f7a4 6 = .ok (.ireturn, 1) := by decide +kernel
theorem dJ0_indexOf_7cf53_0 : decode cJ0_indexOf_7cf53 0 = .ok (.aload_n 0, 1) := by decide +kernel
theorem dJ0_indexOf_7cf53_1 : decode cJ0_indexOf_7cf53 1 = .ok (.invokevirtual 492, 3) := by decide +kernel
theorem dJ0_indexOf_7cf53_4 : decode cJ0_indexOf_7cf53 4 = .ok (.ifCond .eq 19, 3) := by decide +kernel
theorem dJ0_indexOf_7cf53_7 : decode cJ0_indexOf_7cf53 7 = .ok (.aload_n 0, 1) := by decide +kernel
theorem dJ0_indexOf_7cf53_8 : decode cJ0_indexOf_7cf53 8 = .ok (.getfield 9, 3) := by decide +kernel
theorem dJ0_indexOf_7cf53_11 : decode cJ0_indexOf_7cf53 11 = .ok (.iload_n 1, 1) := by decide +kernel
theorem dJ0_indexOf_7cf53_12 : decode cJ0_indexOf_7cf53 12 = .ok (.iload_n 2, 1) := by decide +kernel
theorem dJ0_indexOf_7cf53_13 : decode cJ0_indexOf_7cf53 13 = .ok (.aload_n 0, 1) := by decide +kernel
theorem dJ0_indexOf_7cf53_14 : decode cJ0_indexOf_7cf53 14 = .ok (.invokevirtual 505, 3) := by decide +kernel
theorem dJ0_indexOf_7cf53_17 : decode cJ0_indexOf_7cf53 17 = .ok (.invokestatic 637, 3) := by decide +kernel
theorem dJ0_indexOf_7cf53_20 : decode cJ0_indexOf_7cf53 20 = .ok (.goto 16, 3) := by decide +kernel
theorem dJ0_indexOf_7cf53_23 : decode cJ0_indexOf_7cf53 23 = .ok (.aload_n 0, 1) := by decide +kernel
theorem dJ0_indexOf_7cf53_24 : decode cJ0_indexOf_7cf53 24 = .ok (.getfield 9, 3) := by decide +kernel
theorem dJ0_indexOf_7cf53_27 : decode cJ0_indexOf_7cf53 27 = .ok (.iload_n 1, 1) := by decide +kernel
theorem dJ0_indexOf_7cf53_28 : decode cJ0_indexOf_7cf53 28 = .ok (.iload_n 2, 1) := by decide +kernel
theorem dJ0_indexOf_7cf53_29 : decode cJ0_indexOf_7cf53 29 = .ok (.aload_n 0, 1) := by decide +kernel
theorem dJ0_indexOf_7cf53_30 : decode cJ0_indexOf_7cf53 30 = .ok (.invokevirtual 505, 3) := by decide +kernel
theorem dJ0_indexOf_7cf53_33 : decode cJ0_indexOf_7cf53 33 = .ok (.invokestatic 640, 3) := by decide +kernel
theorem dJ0_indexOf_7cf53_36 : decode cJ0_indexOf_7cf53 36 = .ok (.ireturn, 1) := by decide +kernel
theorem dJ0_coder_7d493_0 : decode cJ0_coder_7d493 0 = .ok (.getstatic 38, 3) := by decide +kernel
theorem dJ0_coder_7d493_3 : decode cJ0_coder_7d493 3 = .ok (.ifCond .eq 10, 3) := by decide +kernel
theorem dJ0_coder_7d493_6 : decode cJ0_coder_7d493 6 = .ok (.aload_n 0, 1) := by decide +kernel
theorem dJ0_coder_7d493_7 : decode cJ0_coder_7d493 7 = .ok (.getfield 15, 3) := by decide +kernel
theorem dJ0_coder_7d493_10 : decode cJ0_coder_7d493 10 = .ok (.goto 4, 3) := by decide +kernel
theorem dJ0_coder_7d493_13 : decode cJ0_coder_7d493 13 = .ok (.iconst 1, 1) := by decide +kernel
theorem dJ0_coder_7d493_14 : decode cJ0_coder_7d493 14 = .ok (.ireturn, 1) := by decide +kernel
theorem dJ0_isLatin1_aae02_0 : decode cJ0_isLatin1_aae02 0 = .ok (.getstatic 38, 3) := by decide +kernel
theorem dJ0_isLatin1_aae02_3 : decode cJ0_isLatin1_aae02 3 = .ok (.ifCond .eq 14, 3) := by decide +kernel
theorem dJ0_isLatin1_aae02_6 : decode cJ0_isLatin1_aae02 6 = .ok (.aload_n 0, 1) := by decide +kernel
theorem dJ0_isLatin1_aae02_7 : decode cJ0_isLatin1_aae02 7 = .ok (.getfield 15, 3) := by decide +kernel
theorem dJ0_isLatin1_aae02_10 : decode cJ0_isLatin1_aae02 10 = .ok (.ifCond .ne 7, 3) := by decide +kernel
theorem dJ0_isLatin1_aae02_13 : decode cJ0_isLatin1_aae02 13 = .ok (.iconst 1, 1) := by decide +kernel
theorem dJ0_isLatin1_aae02_14 : decode cJ0_isLatin1_aae02 14 = .ok (.goto 4, 3) := by decide +kernel
theorem dJ0_isLatin1_aae02_17 : decode cJ0_isLatin1_aae02 17 = .ok (.iconst 0, 1) := by decide +kernel
theorem dJ0_isLatin1_aae02_18 : decode cJ0_isLatin1_aae02 18 = .ok (.ireturn, 1) := by decide +kernel
theorem dJ0_checkIndex_df160_0 : decode cJ0_checkIndex_df160 0 = .ok (.iload_n 0, 1) := by decide +kernel
theorem dJ0_checkIndex_df160_1 : decode cJ0_checkIndex_df160 1 = .ok (.iload_n 1, 1) := by decide +kernel
theorem dJ0_checkIndex_df160_2 : decode cJ0_checkIndex_df160 2 = .ok (.getstatic 1053, 3) := by decide +kernel
theorem dJ0_checkIndex_df160_5 : decode cJ0_checkIndex_df160 5 = .ok (.invokestatic 1059, 3) := by decide +kernel
theorem dJ0_checkIndex_df160_8 : decode cJ0_checkIndex_df160 8 = .ok (.pop, 1) := by decide +kernel
theorem dJ0_checkIndex_df160_9 : decode cJ0_checkIndex_df160 9 = .ok (.return_, 1) := by decide +kernel
theorem dJ0_checkBoundsBeginEnd_23922_0 : decode cJ0_checkBoundsBeginEnd_23922 0 = .ok (.iload_n 0, 1) := by decide +kernel
theorem dJ0_checkBoundsBeginEnd_23922_1 : decode cJ0_checkBoundsBeginEnd_23922 1 = .ok (.iload_n 1, 1) := by decide +kernel
theorem dJ0_checkBoundsBeginEnd_23922_2 : decode cJ0_checkBoundsBeginEnd_23922 2 = .ok (.iload_n 2, 1) := by decide +kernel
theorem dJ0_checkBoundsBeginEnd_23922_3 : decode cJ0_checkBoundsBeginEnd_23922 3 = .ok (.getstatic 1053, 3) := by decide +kernel
theorem dJ0_checkBoundsBeginEnd_23922_6 : decode cJ0_checkBoundsBeginEnd_23922 6 = .ok (.invokestatic 1062, 3) := by decide +kernel
theorem dJ0_checkBoundsBeginEnd_23922_9 : decode cJ0_checkBoundsBeginEnd_23922 9 = .ok (.pop, 1) := by decide +kernel
theorem dJ0_checkBoundsBeginEnd_23922_10 : decode cJ0_checkBoundsBeginEnd_23922 10 = .ok (.return_, 1) := by decide +kernel
theorem dJ1_charAt_3b067_0 : decode cJ1_charAt_3b067 0 = .ok (.iload_n 1, 1) := by decide +kernel
theorem dJ1_charAt_3b067_1 : decode cJ1_charAt_3b067 1 = .ok (.aload_n 0, 1) := by decide +kernel
theorem dJ1_charAt_3b067_2 : decode cJ1_charAt_3b067 2 = .ok (.arraylength, 1) := by decide +kernel
theorem dJ1_charAt_3b067_3 : decode cJ1_charAt_3b067 3 = .ok (.invokestatic 9, 3) := by decide +kernel
theorem dJ1_charAt_3b067_6 : decode cJ1_charAt_3b067 6 = .ok (.aload_n 0, 1) := by decide +kernel
theorem dJ1_charAt_3b067_7 : decode cJ1_charAt_3b067 7 = .ok (.iload_n 1, 1) := by decide +kernel
theorem dJ1_charAt_3b067_8 : decode cJ1_charAt_3b067 8 = .ok (.baload, 1) := by decide +kernel
theorem dJ1_charAt_3b067_9 : decode cJ1_charAt_3b067 9 = .ok (.sipush 255, 3) := by decide +kernel
theorem dJ1_charAt_3b067_12 : decode cJ1_charAt_3b067 12 = .ok (.iand, 1) := by decide +kernel
theorem dJ1_charAt_3b067_13 : decode cJ1_charAt_3b067 13 = .ok (.i2c, 1) := by decide +kernel
theorem dJ1_charAt_3b067_14 : decode cJ1_charAt_3b067 14 = .ok (.ireturn, 1) := by decide +kernel
theorem dJ1_canEncode_9a6ad_0 : decode cJ1_canEncode_9a6ad 0 = .ok (.iload_n 0, 1) := by decide +kernel
theorem dJ1_canEncode_9a6ad_1 : decode cJ1_canEncode_9a6ad 1 = .ok (.ifCond .lt 14, 3) := by decide +kernel
theorem dJ1_canEncode_9a6ad_4 : decode cJ1_canEncode_9a6ad 4 = .ok (.iload_n 0, 1) := by decide +kernel
theorem dJ1_canEncode_9a6ad_5 : decode cJ1_canEncode_9a6ad 5 = .ok (.sipush 255, 3) := by decide +kernel
theorem dJ1_canEncode_9a6ad_8 : decode cJ1_canEncode_9a6ad 8 = .ok (.if_icmp .gt 7, 3) := by decide +kernel
theorem dJ1_canEncode_9a6ad_11 : decode cJ1_canEncode_9a6ad 11 = .ok (.iconst 1, 1) := by decide +kernel
theorem dJ1_canEncode_9a6ad_12 : decode cJ1_canEncode_9a6ad 12 = .ok (.goto 4, 3) := by decide +kernel
theorem dJ1_canEncode_9a6ad_15 : decode cJ1_canEncode_9a6ad 15 = .ok (.iconst 0, 1) := by decide +kernel
theorem dJ1_canEncode_9a6ad_16 : decode cJ1_canEncode_9a6ad 16 = .ok (.ireturn, 1) := by decide +kernel
theorem dJ1_indexOf_4cfef_0 : decode cJ1_indexOf_4cfef 0 = .ok (.iload_n 1, 1) := by decide +kernel
theorem dJ1_indexOf_4cfef_1 : decode cJ1_indexOf_4cfef 1 = .ok (.invokestatic 88, 3) := by decide +kernel
theorem dJ1_indexOf_4cfef_4 : decode cJ1_indexOf_4cfef 4 = .ok (.ifCond .ne 5, 3) := by decide +kernel
theorem dJ1_indexOf_4cfef_7 : decode cJ1_indexOf_4cfef 7 = .ok (.iconst (-1), 1) := by decide +kernel
theorem dJ1_indexOf_4cfef_8 : decode cJ1_indexOf_4cfef 8 = .ok (.ireturn, 1) := by decide +kernel
theorem dJ1_indexOf_4cfef_9 : decode cJ1_indexOf_4cfef 9 = .ok (.iload_n 2, 1) := by decide +kernel
theorem dJ1_indexOf_4cfef_10 : decode cJ1_indexOf_4cfef 10 = .ok (.iconst 0, 1) := by decide +kernel
theorem dJ1_indexOf_4cfef_11 : decode cJ1_indexOf_4cfef 11 = .ok (.invokestatic 92, 3) := by decide +kernel
theorem dJ1_indexOf_4cfef_14 : decode cJ1_indexOf_4cfef 14 = .ok (.istore_n 2, 1) := by decide +kernel
theorem dJ1_indexOf_4cfef_15 : decode cJ1_indexOf_4cfef 15 = .ok (.iload_n 3, 1) := by decide +kernel
theorem dJ1_indexOf_4cfef_16 : decode cJ1_indexOf_4cfef 16 = .ok (.aload_n 0, 1) := by decide +kernel
theorem dJ1_indexOf_4cfef_17 : decode cJ1_indexOf_4cfef 17 = .ok (.arraylength, 1) := by decide +kernel
theorem dJ1_indexOf_4cfef_18 : decode cJ1_indexOf_4cfef 18 = .ok (.invokestatic 38, 3) := by decide +kernel
theorem dJ1_indexOf_4cfef_21 : decode cJ1_indexOf_4cfef 21 = .ok (.istore_n 3, 1) := by decide +kernel
theorem dJ1_indexOf_4cfef_22 : decode cJ1_indexOf_4cfef 22 = .ok (.iload_n 2, 1) := by decide +kernel
theorem dJ1_indexOf_4cfef_23 : decode cJ1_indexOf_4cfef 23 = .ok (.iload_n 3, 1) := by decide +kernel
theorem dJ1_indexOf_4cfef_24 : decode cJ1_indexOf_4cfef 24 = .ok (.if_icmp .lt 5, 3) := by decide +kernel
theorem dJ1_indexOf_4cfef_27 : decode cJ1_indexOf_4cfef 27 = .ok (.iconst (-1), 1) := by decide +kernel
theorem dJ1_indexOf_4cfef_28 : decode cJ1_indexOf_4cfef 28 = .ok (.ireturn, 1) := by decide +kernel
theorem dJ1_indexOf_4cfef_29 : decode cJ1_indexOf_4cfef 29 = .ok (.aload_n 0, 1) := by decide +kernel
theorem dJ1_indexOf_4cfef_30 : decode cJ1_indexOf_4cfef 30 = .ok (.iload_n 1, 1) := by decide +kernel
theorem dJ1_indexOf_4cfef_31 : decode cJ1_indexOf_4cfef 31 = .ok (.iload_n 2, 1) := by decide +kernel
theorem dJ1_indexOf_4cfef_32 : decode cJ1_indexOf_4cfef 32 = .ok (.iload_n 3, 1) := by decide +kernel
theorem dJ1_indexOf_4cfef_33 : decode cJ1_indexOf_4cfef 33 = .ok (.invokestatic 95, 3) := by decide +kernel
theorem dJ1_indexOf_4cfef_36 : decode cJ1_indexOf_4cfef 36 = .ok (.ireturn, 1) := by decide +kernel
theorem dJ1_indexOfChar_4cfef_0 : decode cJ1_indexOfChar_4cfef 0 = .ok (.iload_n 1, 1) := by decide +kernel
theorem dJ1_indexOfChar_4cfef_1 : decode cJ1_indexOfChar_4cfef 1 = .ok (.i2b, 1) := by decide +kernel
theorem dJ1_indexOfChar_4cfef_2 : decode cJ1_indexOfChar_4cfef 2 = .ok (.istore 4, 2) := by decide +kernel
theorem dJ1_indexOfChar_4cfef_4 : decode cJ1_indexOfChar_4cfef 4 = .ok (.iload_n 2, 1) := by decide +kernel
theorem dJ1_indexOfChar_4cfef_5 : decode cJ1_indexOfChar_4cfef 5 = .ok (.istore 5, 2) := by decide +kernel
theorem dJ1_indexOfChar_4cfef_7 : decode cJ1_indexOfChar_4cfef 7 = .ok (.iload 5, 2) := by decide +kernel
theorem dJ1_indexOfChar_4cfef_9 : decode cJ1_indexOfChar_4cfef 9 = .ok (.iload_n 3, 1) := by decide +kernel
theorem dJ1_indexOfChar_4cfef_10 : decode cJ1_indexOfChar_4cfef 10 = .ok (.if_icmp .ge 21, 3) := by decide +kernel
theorem dJ1_indexOfChar_4cfef_13 : decode cJ1_indexOfChar_4cfef 13 = .ok (.aload_n 0, 1) := by decide +kernel
theorem dJ1_indexOfChar_4cfef_14 : decode cJ1_indexOfChar_4cfef 14 = .ok (.iload 5, 2) := by decide +kernel
theorem dJ1_indexOfChar_4cfef_16 : decode cJ1_indexOfChar_4cfef 16 = .ok (.baload, 1) := by decide +kernel
theorem dJ1_indexOfChar_4cfef_17 : decode cJ1_indexOfChar_4cfef 17 = .ok (.iload 4, 2) := by decide +kernel
theorem dJ1_indexOfChar_4cfef_19 : decode cJ1_indexOfChar_4cfef 19 = .ok (.if_icmp .ne 6, 3) := by decide +kernel
theorem dJ1_indexOfChar_4cfef_22 : decode cJ1_indexOfChar_4cfef 22 = .ok (.iload 5, 2) := by decide +kernel
theorem dJ1_indexOfChar_4cfef_24 : decode cJ1_indexOfChar_4cfef 24 = .ok (.ireturn, 1) := by decide +kernel
theorem dJ1_indexOfChar_4cfef_25 : decode cJ1_indexOfChar_4cfef 25 = .ok (.iinc 5 1, 3) := by decide +kernel
theorem dJ1_indexOfChar_4cfef_28 : decode cJ1_indexOfChar_4cfef 28 = .ok (.goto (-21), 3) := by decide +kernel
theorem dJ1_indexOfChar_4cfef_31 : decode cJ1_indexOfChar_4cfef 31 = .ok (.iconst (-1), 1) := by decide +kernel
theorem dJ1_indexOfChar_4cfef_32 : decode cJ1_indexOfChar_4cfef 32 = .ok (.ireturn, 1) := by decide +kernel
theorem dJ2_getChar_3b067_0 : decode cJ2_getChar_3b067 0 = .ok (.getstatic 44, 3) := by decide +kernel
theorem dJ2_getChar_3b067_3 : decode cJ2_getChar_3b067 3 = .ok (.ifCond .ne 25, 3) := by decide +kernel
theorem dJ2_getChar_3b067_6 : decode cJ2_getChar_3b067 6 = .ok (.iload_n 1, 1) := by decide +kernel
theorem dJ2_getChar_3b067_7 : decode cJ2_getChar_3b067 7 = .ok (.ifCond .lt 11, 3) := by decide +kernel
theorem dJ2_getChar_3b067_10 : decode cJ2_getChar_3b067 10 = .ok (.iload_n 1, 1) := by decide +kernel
theorem dJ2_getChar_3b067_11 : decode cJ2_getChar_3b067 11 = .ok (.aload_n 0, 1) := by decide +kernel
theorem dJ2_getChar_3b067_12 : decode cJ2_getChar_3b067 12 = .ok (.invokestatic 48, 3) := by decide +kernel
theorem dJ2_getChar_3b067_15 : decode cJ2_getChar_3b067 15 = .ok (.if_icmp .lt 13, 3) := by decide +kernel
theorem dJ2_getChar_3b067_18 : decode cJ2_getChar_3b067 18 = .ok (.new 52, 3) := by decide +kernel
theorem dJ2_getChar_3b067_21 : decode cJ2_getChar_3b067 21 = .ok (.dup, 1) := by decide +kernel
theorem dJ2_getChar_3b067_22 : decode cJ2_getChar_3b067 22 = .ok (.ldc 54, 2) := by decide +kernel
theorem dJ2_getChar_3b067_24 : decode cJ2_getChar_3b067 24 = .ok (.invokespecial 56, 3) := by decide +kernel
theorem dJ2_getChar_3b067_27 : decode cJ2_getChar_3b067 27 = .ok (.athrow, 1) := by decide +kernel
theorem dJ2_getChar_3b067_28 : decode cJ2_getChar_3b067 28 = .ok (.iload_n 1, 1) := by decide +kernel
theorem dJ2_getChar_3b067_29 : decode cJ2_getChar_3b067 29 = .ok (.iconst 1, 1) := by decide +kernel
theorem dJ2_getChar_3b067_30 : decode cJ2_getChar_3b067 30 = .ok (.ishl, 1) := by decide +kernel
theorem dJ2_getChar_3b067_31 : decode cJ2_getChar_3b067 31 = .ok (.istore_n 1, 1) := by decide +kernel
theorem dJ2_getChar_3b067_32 : decode cJ2_getChar_3b067 32 = .ok (.aload_n 0, 1) := by decide +kernel
theorem dJ2_getChar_3b067_33 : decode cJ2_getChar_3b067 33 = .ok (.iload_n 1, 1) := by decide +kernel
theorem dJ2_getChar_3b067_34 : decode cJ2_getChar_3b067 34 = .ok (.iinc 1 1, 3) := by decide +kernel
theorem dJ2_getChar_3b067_37 : decode cJ2_getChar_3b067 37 = .ok (.baload, 1) := by decide +kernel
theorem dJ2_getChar_3b067_38 : decode cJ2_getChar_3b067 38 = .ok (.sipush 255, 3) := by decide +kernel
theorem dJ2_getChar_3b067_41 : decode cJ2_getChar_3b067 41 = .ok (.iand, 1) := by decide +kernel
theorem dJ2_getChar_3b067_42 : decode cJ2_getChar_3b067 42 = .ok (.getstatic 59, 3) := by decide +kernel
theorem dJ2_getChar_3b067_45 : decode cJ2_getChar_3b067 45 = .ok (.ishl, 1) := by decide +kernel
theorem dJ2_getChar_3b067_46 : decode cJ2_getChar_3b067 46 = .ok (.aload_n 0, 1) := by decide +kernel
theorem dJ2_getChar_3b067_47 : decode cJ2_getChar_3b067 47 = .ok (.iload_n 1, 1) := by decide +kernel
theorem dJ2_getChar_3b067_48 : decode cJ2_getChar_3b067 48 = .ok (.baload, 1) := by decide +kernel
theorem dJ2_getChar_3b067_49 : decode cJ2_getChar_3b067 49 = .ok (.sipush 255, 3) := by decide +kernel
theorem dJ2_getChar_3b067_52 : decode cJ2_getChar_3b067 52 = .ok (.iand, 1) := by decide +kernel
theorem dJ2_getChar_3b067_53 : decode cJ2_getChar_3b067 53 = .ok (.getstatic 63, 3) := by decide +kernel
theorem dJ2_getChar_3b067_56 : decode cJ2_getChar_3b067 56 = .ok (.ishl, 1) := by decide +kernel
theorem dJ2_getChar_3b067_57 : decode cJ2_getChar_3b067 57 = .ok (.ior, 1) := by decide +kernel
theorem dJ2_getChar_3b067_58 : decode cJ2_getChar_3b067 58 = .ok (.i2c, 1) := by decide +kernel
theorem dJ2_getChar_3b067_59 : decode cJ2_getChar_3b067 59 = .ok (.ireturn, 1) := by decide +kernel
theorem dJ2_length_9d52b_0 : decode cJ2_length_9d52b 0 = .ok (.aload_n 0, 1) := by decide +kernel
theorem dJ2_length_9d52b_1 : decode cJ2_length_9d52b 1 = .ok (.arraylength, 1) := by decide +kernel
theorem dJ2_length_9d52b_2 : decode cJ2_length_9d52b 2 = .ok (.iconst 1, 1) := by decide +kernel
theorem dJ2_length_9d52b_3 : decode cJ2_length_9d52b 3 = .ok (.ishr, 1) := by decide +kernel
theorem dJ2_length_9d52b_4 : decode cJ2_length_9d52b 4 = .ok (.ireturn, 1) := by decide +kernel
theorem dJ2_indexOf_4cfef_0 : decode cJ2_indexOf_4cfef 0 = .ok (.iload_n 2, 1) := by decide +kernel
theorem dJ2_indexOf_4cfef_1 : decode cJ2_indexOf_4cfef 1 = .ok (.iconst 0, 1) := by decide +kernel
theorem dJ2_indexOf_4cfef_2 : decode cJ2_indexOf_4cfef 2 = .ok (.invokestatic 224, 3) := by decide +kernel
theorem dJ2_indexOf_4cfef_5 : decode cJ2_indexOf_4cfef 5 = .ok (.istore_n 2, 1) := by decide +kernel
theorem dJ2_indexOf_4cfef_6 : decode cJ2_indexOf_4cfef 6 = .ok (.iload_n 3, 1) := by decide +kernel
theorem dJ2_indexOf_4cfef_7 : decode cJ2_indexOf_4cfef 7 = .ok (.aload_n 0, 1) := by decide +kernel
theorem dJ2_indexOf_4cfef_8 : decode cJ2_indexOf_4cfef 8 = .ok (.arraylength, 1) := by decide +kernel
theorem dJ2_indexOf_4cfef_9 : decode cJ2_indexOf_4cfef 9 = .ok (.iconst 1, 1) := by decide +kernel
theorem dJ2_indexOf_4cfef_10 : decode cJ2_indexOf_4cfef 10 = .ok (.ishr, 1) := by decide +kernel
theorem dJ2_indexOf_4cfef_11 : decode cJ2_indexOf_4cfef 11 = .ok (.invokestatic 183, 3) := by decide +kernel
theorem dJ2_indexOf_4cfef_14 : decode cJ2_indexOf_4cfef 14 = .ok (.istore_n 3, 1) := by decide +kernel
theorem dJ2_indexOf_4cfef_15 : decode cJ2_indexOf_4cfef 15 = .ok (.iload_n 2, 1) := by decide +kernel
theorem dJ2_indexOf_4cfef_16 : decode cJ2_indexOf_4cfef 16 = .ok (.iload_n 3, 1) := by decide +kernel
theorem dJ2_indexOf_4cfef_17 : decode cJ2_indexOf_4cfef 17 = .ok (.if_icmp .lt 5, 3) := by decide +kernel
theorem dJ2_indexOf_4cfef_20 : decode cJ2_indexOf_4cfef 20 = .ok (.iconst (-1), 1) := by decide +kernel
theorem dJ2_indexOf_4cfef_21 : decode cJ2_indexOf_4cfef 21 = .ok (.ireturn, 1) := by decide +kernel
theorem dJ2_indexOf_4cfef_22 : decode cJ2_indexOf_4cfef 22 = .ok (.iload_n 1, 1) := by decide +kernel
theorem dJ2_indexOf_4cfef_23 : decode cJ2_indexOf_4cfef 23 = .ok (.ldc 227, 2) := by decide +kernel
theorem dJ2_indexOf_4cfef_25 : decode cJ2_indexOf_4cfef 25 = .ok (.if_icmp .ge 11, 3) := by decide +kernel
theorem dJ2_indexOf_4cfef_28 : decode cJ2_indexOf_4cfef 28 = .ok (.aload_n 0, 1) := by decide +kernel
theorem dJ2_indexOf_4cfef_29 : decode cJ2_indexOf_4cfef 29 = .ok (.iload_n 1, 1) := by decide +kernel
theorem dJ2_indexOf_4cfef_30 : decode cJ2_indexOf_4cfef 30 = .ok (.iload_n 2, 1) := by decide +kernel
theorem dJ2_indexOf_4cfef_31 : decode cJ2_indexOf_4cfef 31 = .ok (.iload_n 3, 1) := by decide +kernel
theorem dJ2_indexOf_4cfef_32 : decode cJ2_indexOf_4cfef 32 = .ok (.invokestatic 228, 3) := by decide +kernel
theorem dJ2_indexOf_4cfef_35 : decode cJ2_indexOf_4cfef 35 = .ok (.ireturn, 1) := by decide +kernel
theorem dJ2_indexOf_4cfef_36 : decode cJ2_indexOf_4cfef 36 = .ok (.aload_n 0, 1) := by decide +kernel
theorem dJ2_indexOf_4cfef_37 : decode cJ2_indexOf_4cfef 37 = .ok (.iload_n 1, 1) := by decide +kernel
theorem dJ2_indexOf_4cfef_38 : decode cJ2_indexOf_4cfef 38 = .ok (.iload_n 2, 1) := by decide +kernel
theorem dJ2_indexOf_4cfef_39 : decode cJ2_indexOf_4cfef 39 = .ok (.iload_n 3, 1) := by decide +kernel
theorem dJ2_indexOf_4cfef_40 : decode cJ2_indexOf_4cfef 40 = .ok (.invokestatic 232, 3) := by decide +kernel
theorem dJ2_indexOf_4cfef_43 : decode cJ2_indexOf_4cfef 43 = .ok (.ireturn, 1) := by decide +kernel
theorem dJ2_indexOfChar_4cfef_0 : decode cJ2_indexOfChar_4cfef 0 = .ok (.iload_n 2, 1) := by decide +kernel
theorem dJ2_indexOfChar_4cfef_1 : decode cJ2_indexOfChar_4cfef 1 = .ok (.iload_n 3, 1) := by decide +kernel
theorem dJ2_indexOfChar_4cfef_2 : decode cJ2_indexOfChar_4cfef 2 = .ok (.aload_n 0, 1) := by decide +kernel
theorem dJ2_indexOfChar_4cfef_3 : decode cJ2_indexOfChar_4cfef 3 = .ok (.invokestatic 96, 3) := by decide +kernel
theorem dJ2_indexOfChar_4cfef_6 : decode cJ2_indexOfChar_4cfef 6 = .ok (.aload_n 0, 1) := by decide +kernel
theorem dJ2_indexOfChar_4cfef_7 : decode cJ2_indexOfChar_4cfef 7 = .ok (.iload_n 1, 1) := by decide +kernel
theorem dJ2_indexOfChar_4cfef_8 : decode cJ2_indexOfChar_4cfef 8 = .ok (.iload_n 2, 1) := by decide +kernel
theorem dJ2_indexOfChar_4cfef_9 : decode cJ2_indexOfChar_4cfef 9 = .ok (.iload_n 3, 1) := by decide +kernel
theorem dJ2_indexOfChar_4cfef_10 : decode cJ2_indexOfChar_4cfef 10 = .ok (.invokestatic 244, 3) := by decide +kernel
theorem dJ2_indexOfChar_4cfef_13 : decode cJ2_indexOfChar_4cfef 13 = .ok (.ireturn, 1) := by decide +kernel
theorem dJ2_indexOfCharUnsafe_4cfef_0 : decode cJ2_indexOfCharUnsafe_4cfef 0 = .ok (.iload_n 2, 1) := by decide +kernel
theorem dJ2_indexOfCharUnsafe_4cfef_1 : decode cJ2_indexOfCharUnsafe_4cfef 1 = .ok (.istore 4, 2) := by decide +kernel
theorem dJ2_indexOfCharUnsafe_4cfef_3 : decode cJ2_indexOfCharUnsafe_4cfef 3 = .ok (.iload 4, 2) := by decide +kernel
theorem dJ2_indexOfCharUnsafe_4cfef_5 : decode cJ2_indexOfCharUnsafe_4cfef 5 = .ok (.iload_n 3, 1) := by decide +kernel
theorem dJ2_indexOfCharUnsafe_4cfef_6 : decode cJ2_indexOfCharUnsafe_4cfef 6 = .ok (.if_icmp .ge 22, 3) := by decide +kernel
theorem dJ2_indexOfCharUnsafe_4cfef_9 : decode cJ2_indexOfCharUnsafe_4cfef 9 = .ok (.aload_n 0, 1) := by decide +kernel
theorem dJ2_indexOfCharUnsafe_4cfef_10 : decode cJ2_indexOfCharUnsafe_4cfef 10 = .ok (.iload 4, 2) := by decide +kernel
theorem dJ2_indexOfCharUnsafe_4cfef_12 : decode cJ2_indexOfCharUnsafe_4cfef 12 = .ok (.invokestatic 71, 3) := by decide +kernel
theorem dJ2_indexOfCharUnsafe_4cfef_15 : decode cJ2_indexOfCharUnsafe_4cfef 15 = .ok (.iload_n 1, 1) := by decide +kernel
theorem dJ2_indexOfCharUnsafe_4cfef_16 : decode cJ2_indexOfCharUnsafe_4cfef 16 = .ok (.if_icmp .ne 6, 3) := by decide +kernel
theorem dJ2_indexOfCharUnsafe_4cfef_19 : decode cJ2_indexOfCharUnsafe_4cfef 19 = .ok (.iload 4, 2) := by decide +kernel
theorem dJ2_indexOfCharUnsafe_4cfef_21 : decode cJ2_indexOfCharUnsafe_4cfef 21 = .ok (.ireturn, 1) := by decide +kernel
theorem dJ2_indexOfCharUnsafe_4cfef_22 : decode cJ2_indexOfCharUnsafe_4cfef 22 = .ok (.iinc 4 1, 3) := by decide +kernel
theorem dJ2_indexOfCharUnsafe_4cfef_25 : decode cJ2_indexOfCharUnsafe_4cfef 25 = .ok (.goto (-22), 3) := by decide +kernel
theorem dJ2_indexOfCharUnsafe_4cfef_28 : decode cJ2_indexOfCharUnsafe_4cfef 28 = .ok (.iconst (-1), 1) := by decide +kernel
theorem dJ2_indexOfCharUnsafe_4cfef_29 : decode cJ2_indexOfCharUnsafe_4cfef 29 = .ok (.ireturn, 1) := by decide +kernel
theorem dJ2_indexOfSupplementary_4cfef_0 : decode cJ2_indexOfSupplementary_4cfef 0 = .ok (.iload_n 1, 1) := by decide +kernel
theorem dJ2_indexOfSupplementary_4cfef_1 : decode cJ2_indexOfSupplementary_4cfef 1 = .ok (.invokestatic 164, 3) := by decide +kernel
theorem dJ2_indexOfSupplementary_4cfef_4 : decode cJ2_indexOfSupplementary_4cfef 4 = .ok (.ifCond .eq 65, 3) := by decide +kernel
theorem dJ2_indexOfSupplementary_4cfef_7 : decode cJ2_indexOfSupplementary_4cfef 7 = .ok (.iload_n 1, 1) := by decide +kernel
theorem dJ2_indexOfSupplementary_4cfef_8 : decode cJ2_indexOfSupplementary_4cfef 8 = .ok (.invokestatic 157, 3) := by decide +kernel
theorem dJ2_indexOfSupplementary_4cfef_11 : decode cJ2_indexOfSupplementary_4cfef 11 = .ok (.istore 4, 2) := by decide +kernel
theorem dJ2_indexOfSupplementary_4cfef_13 : decode cJ2_indexOfSupplementary_4cfef 13 = .ok (.iload_n 1, 1) := by decide +kernel
theorem dJ2_indexOfSupplementary_4cfef_14 : decode cJ2_indexOfSupplementary_4cfef 14 = .ok (.invokestatic 161, 3) := by decide +kernel
theorem dJ2_indexOfSupplementary_4cfef_17 : decode cJ2_indexOfSupplementary_4cfef 17 = .ok (.istore 5, 2) := by decide +kernel
theorem dJ2_indexOfSupplementary_4cfef_19 : decode cJ2_indexOfSupplementary_4cfef 19 = .ok (.iload_n 2, 1) := by decide +kernel
theorem dJ2_indexOfSupplementary_4cfef_20 : decode cJ2_indexOfSupplementary_4cfef 20 = .ok (.iload_n 3, 1) := by decide +kernel
theorem dJ2_indexOfSupplementary_4cfef_21 : decode cJ2_indexOfSupplementary_4cfef 21 = .ok (.aload_n 0, 1) := by decide +kernel
theorem dJ2_indexOfSupplementary_4cfef_22 : decode cJ2_indexOfSupplementary_4cfef 22 = .ok (.invokestatic 96, 3) := by decide +kernel
theorem dJ2_indexOfSupplementary_4cfef_25 : decode cJ2_indexOfSupplementary_4cfef 25 = .ok (.iload_n 2, 1) := by decide +kernel
theorem dJ2_indexOfSupplementary_4cfef_26 : decode cJ2_indexOfSupplementary_4cfef 26 = .ok (.istore 6, 2) := by decide +kernel
theorem dJ2_indexOfSupplementary_4cfef_28 : decode cJ2_indexOfSupplementary_4cfef 28 = .ok (.iload 6, 2) := by decide +kernel
theorem dJ2_indexOfSupplementary_4cfef_30 : decode cJ2_indexOfSupplementary_4cfef 30 = .ok (.iload_n 3, 1) := by decide +kernel
theorem dJ2_indexOfSupplementary_4cfef_31 : decode cJ2_indexOfSupplementary_4cfef 31 = .ok (.iconst 1, 1) := by decide +kernel
theorem dJ2_indexOfSupplementary_4cfef_32 : decode cJ2_indexOfSupplementary_4cfef 32 = .ok (.isub, 1) := by decide +kernel
theorem dJ2_indexOfSupplementary_4cfef_33 : decode cJ2_indexOfSupplementary_4cfef 33 = .ok (.if_icmp .ge 36, 3) := by decide +kernel
theorem dJ2_indexOfSupplementary_4cfef_36 : decode cJ2_indexOfSupplementary_4cfef 36 = .ok (.aload_n 0, 1) := by decide +kernel
theorem dJ2_indexOfSupplementary_4cfef_37 : decode cJ2_indexOfSupplementary_4cfef 37 = .ok (.iload 6, 2) := by decide +kernel
theorem dJ2_indexOfSupplementary_4cfef_39 : decode cJ2_indexOfSupplementary_4cfef 39 = .ok (.invokestatic 71, 3) := by decide +kernel
theorem dJ2_indexOfSupplementary_4cfef_42 : decode cJ2_indexOfSupplementary_4cfef 42 = .ok (.iload 4, 2) := by decide +kernel
theorem dJ2_indexOfSupplementary_4cfef_44 : decode cJ2_indexOfSupplementary_4cfef 44 = .ok (.if_icmp .ne 19, 3) := by decide +kernel
theorem dJ2_indexOfSupplementary_4cfef_47 : decode cJ2_indexOfSupplementary_4cfef 47 = .ok (.aload_n 0, 1) := by decide +kernel
theorem dJ2_indexOfSupplementary_4cfef_48 : decode cJ2_indexOfSupplementary_4cfef 48 = .ok (.iload 6, 2) := by decide +kernel
theorem dJ2_indexOfSupplementary_4cfef_50 : decode cJ2_indexOfSupplementary_4cfef 50 = .ok (.iconst 1, 1) := by decide +kernel
theorem dJ2_indexOfSupplementary_4cfef_51 : decode cJ2_indexOfSupplementary_4cfef 51 = .ok (.iadd, 1) := by decide +kernel
theorem dJ2_indexOfSupplementary_4cfef_52 : decode cJ2_indexOfSupplementary_4cfef 52 = .ok (.invokestatic 71, 3) := by decide +kernel
theorem dJ2_indexOfSupplementary_4cfef_55 : decode cJ2_indexOfSupplementary_4cfef 55 = .ok (.iload 5, 2) := by decide +kernel
theorem dJ2_indexOfSupplementary_4cfef_57 : decode cJ2_indexOfSupplementary_4cfef 57 = .ok (.if_icmp .ne 6, 3) := by decide +kernel
theorem dJ2_indexOfSupplementary_4cfef_60 : decode cJ2_indexOfSupplementary_4cfef 60 = .ok (.iload 6, 2) := by decide +kernel
theorem dJ2_indexOfSupplementary_4cfef_62 : decode cJ2_indexOfSupplementary_4cfef 62 = .ok (.ireturn, 1) := by decide +kernel
theorem dJ2_indexOfSupplementary_4cfef_63 : decode cJ2_indexOfSupplementary_4cfef 63 = .ok (.iinc 6 1, 3) := by decide +kernel
theorem dJ2_indexOfSupplementary_4cfef_66 : decode cJ2_indexOfSupplementary_4cfef 66 = .ok (.goto (-38), 3) := by decide +kernel
theorem dJ2_indexOfSupplementary_4cfef_69 : decode cJ2_indexOfSupplementary_4cfef 69 = .ok (.iconst (-1), 1) := by decide +kernel
theorem dJ2_indexOfSupplementary_4cfef_70 : decode cJ2_indexOfSupplementary_4cfef 70 = .ok (.ireturn, 1) := by decide +kernel
theorem dJ2_charAt_3b067_0 : decode cJ2_charAt_3b067 0 = .ok (.iload_n 1, 1) := by decide +kernel
theorem dJ2_charAt_3b067_1 : decode cJ2_charAt_3b067 1 = .ok (.aload_n 0, 1) := by decide +kernel
theorem dJ2_charAt_3b067_2 : decode cJ2_charAt_3b067 2 = .ok (.invokestatic 67, 3) := by decide +kernel
theorem dJ2_charAt_3b067_5 : decode cJ2_charAt_3b067 5 = .ok (.aload_n 0, 1) := by decide +kernel
theorem dJ2_charAt_3b067_6 : decode cJ2_charAt_3b067 6 = .ok (.iload_n 1, 1) := by decide +kernel
theorem dJ2_charAt_3b067_7 : decode cJ2_charAt_3b067 7 = .ok (.invokestatic 71, 3) := by decide +kernel
theorem dJ2_charAt_3b067_10 : decode cJ2_charAt_3b067 10 = .ok (.ireturn, 1) := by decide +kernel
theorem dJ2_checkIndex_2214a_0 : decode cJ2_checkIndex_2214a 0 = .ok (.iload_n 0, 1) := by decide +kernel
theorem dJ2_checkIndex_2214a_1 : decode cJ2_checkIndex_2214a 1 = .ok (.aload_n 1, 1) := by decide +kernel
theorem dJ2_checkIndex_2214a_2 : decode cJ2_checkIndex_2214a 2 = .ok (.invokestatic 48, 3) := by decide +kernel
theorem dJ2_checkIndex_2214a_5 : decode cJ2_checkIndex_2214a 5 = .ok (.invokestatic 414, 3) := by decide +kernel
theorem dJ2_checkIndex_2214a_8 : decode cJ2_checkIndex_2214a 8 = .ok (.return_, 1) := by decide +kernel
theorem dJ2_checkBoundsBeginEnd_d044e_0 : decode cJ2_checkBoundsBeginEnd_d044e 0 = .ok (.iload_n 0, 1) := by decide +kernel
theorem dJ2_checkBoundsBeginEnd_d044e_1 : decode cJ2_checkBoundsBeginEnd_d044e 1 = .ok (.iload_n 1, 1) := by decide +kernel
theorem dJ2_checkBoundsBeginEnd_d044e_2 : decode cJ2_checkBoundsBeginEnd_d044e 2 = .ok (.aload_n 2, 1) := by decide +kernel
theorem dJ2_checkBoundsBeginEnd_d044e_3 : decode cJ2_checkBoundsBeginEnd_d044e 3 = .ok (.invokestatic 48, 3) := by decide +kernel
theorem dJ2_checkBoundsBeginEnd_d044e_6 : decode cJ2_checkBoundsBeginEnd_d044e 6 = .ok (.invokestatic 241, 3) := by decide +kernel
theorem dJ2_checkBoundsBeginEnd_d044e_9 : decode cJ2_checkBoundsBeginEnd_d044e 9 = .ok (.return_, 1) := by decide +kernel
theorem dJ3_checkIndex_8e157_0 : decode cJ3_checkIndex_8e157 0 = .ok (.iload_n 0, 1) := by decide +kernel
theorem dJ3_checkIndex_8e157_1 : decode cJ3_checkIndex_8e157 1 = .ok (.ifCond .lt 8, 3) := by decide +kernel
theorem dJ3_checkIndex_8e157_4 : decode cJ3_checkIndex_8e157 4 = .ok (.iload_n 0, 1) := by decide +kernel
theorem dJ3_checkIndex_8e157_5 : decode cJ3_checkIndex_8e157 5 = .ok (.iload_n 1, 1) := by decide +kernel
theorem dJ3_checkIndex_8e157_6 : decode cJ3_checkIndex_8e157 6 = .ok (.if_icmp .lt 10, 3) := by decide +kernel
theorem dJ3_checkIndex_8e157_9 : decode cJ3_checkIndex_8e157 9 = .ok (.aload_n 2, 1) := by decide +kernel
theorem dJ3_checkIndex_8e157_10 : decode cJ3_checkIndex_8e157 10 = .ok (.iload_n 0, 1) := by decide +kernel
theorem dJ3_checkIndex_8e157_11 : decode cJ3_checkIndex_8e157 11 = .ok (.iload_n 1, 1) := by decide +kernel
theorem dJ3_checkIndex_8e157_12 : decode cJ3_checkIndex_8e157 12 = .ok (.invokestatic 95, 3) := by decide +kernel
theorem dJ3_checkIndex_8e157_15 : decode cJ3_checkIndex_8e157 15 = .ok (.athrow, 1) := by decide +kernel
theorem dJ3_checkIndex_8e157_16 : decode cJ3_checkIndex_8e157 16 = .ok (.iload_n 0, 1) := by decide +kernel
theorem dJ3_checkIndex_8e157_17 : decode cJ3_checkIndex_8e157 17 = .ok (.ireturn, 1) := by decide +kernel
theorem dJ3_checkFromToIndex_8c36e_0 : decode cJ3_checkFromToIndex_8c36e 0 = .ok (.iload_n 0, 1) := by decide +kernel
theorem dJ3_checkFromToIndex_8c36e_1 : decode cJ3_checkFromToIndex_8c36e 1 = .ok (.ifCond .lt 13, 3) := by decide +kernel
theorem dJ3_checkFromToIndex_8c36e_4 : decode cJ3_checkFromToIndex_8c36e 4 = .ok (.iload_n 0, 1) := by decide +kernel
theorem dJ3_checkFromToIndex_8c36e_5 : decode cJ3_checkFromToIndex_8c36e 5 = .ok (.iload_n 1, 1) := by decide +kernel
theorem dJ3_checkFromToIndex_8c36e_6 : decode cJ3_checkFromToIndex_8c36e 6 = .ok (.if_icmp .gt 8, 3) := by decide +kernel
theorem dJ3_checkFromToIndex_8c36e_9 : decode cJ3_checkFromToIndex_8c36e 9 = .ok (.iload_n 1, 1) := by decide +kernel
theorem dJ3_checkFromToIndex_8c36e_10 : decode cJ3_checkFromToIndex_8c36e 10 = .ok (.iload_n 2, 1) := by decide +kernel
theorem dJ3_checkFromToIndex_8c36e_11 : decode cJ3_checkFromToIndex_8c36e 11 = .ok (.if_icmp .le 11, 3) := by decide +kernel
theorem dJ3_checkFromToIndex_8c36e_14 : decode cJ3_checkFromToIndex_8c36e 14 = .ok (.aload_n 3, 1) := by decide +kernel
theorem dJ3_checkFromToIndex_8c36e_15 : decode cJ3_checkFromToIndex_8c36e 15 = .ok (.iload_n 0, 1) := by decide +kernel
theorem dJ3_checkFromToIndex_8c36e_16 : decode cJ3_checkFromToIndex_8c36e 16 = .ok (.iload_n 1, 1) := by decide +kernel
theorem dJ3_checkFromToIndex_8c36e_17 : decode cJ3_checkFromToIndex_8c36e 17 = .ok (.iload_n 2, 1) := by decide +kernel
theorem dJ3_checkFromToIndex_8c36e_18 : decode cJ3_checkFromToIndex_8c36e 18 = .ok (.invokestatic 99, 3) := by decide +kernel
theorem dJ3_checkFromToIndex_8c36e_21 : decode cJ3_checkFromToIndex_8c36e 21 = .ok (.athrow, 1) := by decide +kernel
theorem dJ3_checkFromToIndex_8c36e_22 : decode cJ3_checkFromToIndex_8c36e 22 = .ok (.iload_n 0, 1) := by decide +kernel
theorem dJ3_checkFromToIndex_8c36e_23 : decode cJ3_checkFromToIndex_8c36e 23 = .ok (.ireturn, 1) := by decide +kernel
theorem dL_law_0 : decode cL_law 0 = .ok (.new 7, 3) := by decide +kernel
theorem dL_law_3 : decode cL_law 3 = .ok (.dup, 1) := by decide +kernel
theorem dL_law_4 : decode cL_law 4 = .ok (.invokespecial 9, 3) := by decide +kernel
theorem dL_law_7 : decode cL_law 7 = .ok (.astore_n 1, 1) := by decide +kernel
theorem dL_law_8 : decode cL_law 8 = .ok (.new 10, 3) := by decide +kernel
theorem dL_law_11 : decode cL_law 11 = .ok (.dup, 1) := by decide +kernel
theorem dL_law_12 : decode cL_law 12 = .ok (.invokespecial 12, 3) := by decide +kernel
theorem dL_law_15 : decode cL_law 15 = .ok (.astore_n 2, 1) := by decide +kernel
theorem dL_law_16 : decode cL_law 16 = .ok (.iconst 0, 1) := by decide +kernel
theorem dL_law_17 : decode cL_law 17 = .ok (.istore_n 3, 1) := by decide +kernel
theorem dL_law_18 : decode cL_law 18 = .ok (.iload_n 3, 1) := by decide +kernel
theorem dL_law_19 : decode cL_law 19 = .ok (.aload_n 0, 1) := by decide +kernel
theorem dL_law_20 : decode cL_law 20 = .ok (.arraylength, 1) := by decide +kernel
theorem dL_law_21 : decode cL_law 21 = .ok (.iconst 4, 1) := by decide +kernel
theorem dL_law_22 : decode cL_law 22 = .ok (.isub, 1) := by decide +kernel
theorem dL_law_23 : decode cL_law 23 = .ok (.if_icmp .gt 810, 3) := by decide +kernel
theorem dL_law_26 : decode cL_law 26 = .ok (.aload_n 0, 1) := by decide +kernel
theorem dL_law_27 : decode cL_law 27 = .ok (.iload_n 3, 1) := by decide +kernel
theorem dL_law_28 : decode cL_law 28 = .ok (.iaload, 1) := by decide +kernel
theorem dL_law_29 : decode cL_law 29 = .ok (.bipush 31, 2) := by decide +kernel
theorem dL_law_31 : decode cL_law 31 = .ok (.iand, 1) := by decide +kernel
theorem dL_law_32 : decode cL_law 32 = .ok (.tableswitch 795 0 26 #[124, 147, 160, 173, 186, 219, 262, 285, 328, 351, 384, 427, 450, 473, 486, 509, 532, 555, 578, 611, 634, 657, 680, 703, 726, 749, 772], 124) := by decide +kernel
theorem dL_law_156 : decode cL_law 156 = .ok (.aload_n 1, 1) := by decide +kernel
theorem dL_law_157 : decode cL_law 157 = .ok (.aload_n 0, 1) := by decide +kernel
theorem dL_law_158 : decode cL_law 158 = .ok (.iload_n 3, 1) := by decide +kernel
theorem dL_law_159 : decode cL_law 159 = .ok (.iconst 1, 1) := by decide +kernel
theorem dL_law_160 : decode cL_law 160 = .ok (.iadd, 1) := by decide +kernel
theorem dL_law_161 : decode cL_law 161 = .ok (.iaload, 1) := by decide +kernel
theorem dL_law_162 : decode cL_law 162 = .ok (.invokevirtual 13, 3) := by decide +kernel
theorem dL_law_165 : decode cL_law 165 = .ok (.aload_n 2, 1) := by decide +kernel
theorem dL_law_166 : decode cL_law 166 = .ok (.aload_n 0, 1) := by decide +kernel
theorem dL_law_167 : decode cL_law 167 = .ok (.iload_n 3, 1) := by decide +kernel
theorem dL_law_168 : decode cL_law 168 = .ok (.iconst 1, 1) := by decide +kernel
theorem dL_law_169 : decode cL_law 169 = .ok (.iadd, 1) := by decide +kernel
theorem dL_law_170 : decode cL_law 170 = .ok (.iaload, 1) := by decide +kernel
theorem dL_law_171 : decode cL_law 171 = .ok (.invokevirtual 17, 3) := by decide +kernel
theorem dL_law_174 : decode cL_law 174 = .ok (.if_icmp .eq 653, 3) := by decide +kernel
theorem dL_law_177 : decode cL_law 177 = .ok (.iconst 0, 1) := by decide +kernel
theorem dL_law_178 : decode cL_law 178 = .ok (.ireturn, 1) := by decide +kernel
theorem dL_law_179 : decode cL_law 179 = .ok (.aload_n 1, 1) := by decide +kernel
theorem dL_law_180 : decode cL_law 180 = .ok (.invokevirtual 18, 3) := by decide +kernel
theorem dL_law_183 : decode cL_law 183 = .ok (.aload_n 2, 1) := by decide +kernel
theorem dL_law_184 : decode cL_law 184 = .ok (.invokevirtual 22, 3) := by decide +kernel
theorem dL_law_187 : decode cL_law 187 = .ok (.if_icmp .eq 640, 3) := by decide +kernel
theorem dL_law_190 : decode cL_law 190 = .ok (.iconst 0, 1) := by decide +kernel
theorem dL_law_191 : decode cL_law 191 = .ok (.ireturn, 1) := by decide +kernel
theorem dL_law_192 : decode cL_law 192 = .ok (.aload_n 1, 1) := by decide +kernel
theorem dL_law_193 : decode cL_law 193 = .ok (.invokevirtual 23, 3) := by decide +kernel
theorem dL_law_196 : decode cL_law 196 = .ok (.aload_n 2, 1) := by decide +kernel
theorem dL_law_197 : decode cL_law 197 = .ok (.invokevirtual 26, 3) := by decide +kernel
theorem dL_law_200 : decode cL_law 200 = .ok (.if_icmp .eq 627, 3) := by decide +kernel
theorem dL_law_203 : decode cL_law 203 = .ok (.iconst 0, 1) := by decide +kernel
theorem dL_law_204 : decode cL_law 204 = .ok (.ireturn, 1) := by decide +kernel
theorem dL_law_205 : decode cL_law 205 = .ok (.aload_n 1, 1) := by decide +kernel
theorem dL_law_206 : decode cL_law 206 = .ok (.invokevirtual 27, 3) := by decide +kernel
theorem dL_law_209 : decode cL_law 209 = .ok (.aload_n 2, 1) := by decide +kernel
theorem dL_law_210 : decode cL_law 210 = .ok (.invokevirtual 30, 3) := by decide +kernel
theorem dL_law_213 : decode cL_law 213 = .ok (.if_icmp .eq 614, 3) := by decide +kernel
theorem dL_law_216 : decode cL_law 216 = .ok (.iconst 0, 1) := by decide +kernel
theorem dL_law_217 : decode cL_law 217 = .ok (.ireturn, 1) := by decide +kernel
theorem dL_law_218 : decode cL_law 218 = .ok (.aload_n 1, 1) := by decide +kernel
theorem dL_law_219 : decode cL_law 219 = .ok (.aload_n 0, 1) := by decide +kernel
theorem dL_law_220 : decode cL_law 220 = .ok (.iload_n 3, 1) := by decide +kernel
theorem dL_law_221 : decode cL_law 221 = .ok (.iconst 1, 1) := by decide +kernel
theorem dL_law_222 : decode cL_law 222 = .ok (.iadd, 1) := by decide +kernel
theorem dL_law_223 : decode cL_law 223 = .ok (.iaload, 1) := by decide +kernel
theorem dL_law_224 : decode cL_law 224 = .ok (.aload_n 0, 1) := by decide +kernel
theorem dL_law_225 : decode cL_law 225 = .ok (.iload_n 3, 1) := by decide +kernel
theorem dL_law_226 : decode cL_law 226 = .ok (.iconst 2, 1) := by decide +kernel
theorem dL_law_227 : decode cL_law 227 = .ok (.iadd, 1) := by decide +kernel
theorem dL_law_228 : decode cL_law 228 = .ok (.iaload, 1) := by decide +kernel
theorem dL_law_229 : decode cL_law 229 = .ok (.invokevirtual 31, 3) := by decide +kernel
theorem dL_law_232 : decode cL_law 232 = .ok (.aload_n 2, 1) := by decide +kernel
theorem dL_law_233 : decode cL_law 233 = .ok (.aload_n 0, 1) := by decide +kernel
theorem dL_law_234 : decode cL_law 234 = .ok (.iload_n 3, 1) := by decide +kernel
theorem dL_law_235 : decode cL_law 235 = .ok (.iconst 1, 1) := by decide +kernel
theorem dL_law_236 : decode cL_law 236 = .ok (.iadd, 1) := by decide +kernel
theorem dL_law_237 : decode cL_law 237 = .ok (.iaload, 1) := by decide +kernel
theorem dL_law_238 : decode cL_law 238 = .ok (.aload_n 0, 1) := by decide +kernel
theorem dL_law_239 : decode cL_law 239 = .ok (.iload_n 3, 1) := by decide +kernel
theorem dL_law_240 : decode cL_law 240 = .ok (.iconst 2, 1) := by decide +kernel
theorem dL_law_241 : decode cL_law 241 = .ok (.iadd, 1) := by decide +kernel
theorem dL_law_242 : decode cL_law 242 = .ok (.iaload, 1) := by decide +kernel
theorem dL_law_243 : decode cL_law 243 = .ok (.invokevirtual 35, 3) := by decide +kernel
theorem dL_law_246 : decode cL_law 246 = .ok (.if_icmp .eq 581, 3) := by decide +kernel
theorem dL_law_249 : decode cL_law 249 = .ok (.iconst 0, 1) := by decide +kernel
theorem dL_law_250 : decode cL_law 250 = .ok (.ireturn, 1) := by decide +kernel
theorem dL_law_251 : decode cL_law 251 = .ok (.aload_n 1, 1) := by decide +kernel
theorem dL_law_252 : decode cL_law 252 = .ok (.aload_n 0, 1) := by decide +kernel
theorem dL_law_253 : decode cL_law 253 = .ok (.iload_n 3, 1) := by decide +kernel
theorem dL_law_254 : decode cL_law 254 = .ok (.iconst 1, 1) := by decide +kernel
theorem dL_law_255 : decode cL_law 255 = .ok (.iadd, 1) := by decide +kernel
theorem dL_law_256 : decode cL_law 256 = .ok (.iaload, 1) := by decide +kernel
theorem dL_law_257 : decode cL_law 257 = .ok (.aload_n 0, 1) := by decide +kernel
theorem dL_law_258 : decode cL_law 258 = .ok (.iload_n 3, 1) := by decide +kernel
theorem dL_law_259 : decode cL_law 259 = .ok (.iconst 2, 1) := by decide +kernel
theorem dL_law_260 : decode cL_law 260 = .ok (.iadd, 1) := by decide +kernel
theorem dL_law_261 : decode cL_law 261 = .ok (.iaload, 1) := by decide +kernel
theorem dL_law_262 : decode cL_law 262 = .ok (.aload_n 0, 1) := by decide +kernel
theorem dL_law_263 : decode cL_law 263 = .ok (.iload_n 3, 1) := by decide +kernel
theorem dL_law_264 : decode cL_law 264 = .ok (.iconst 3, 1) := by decide +kernel
theorem dL_law_265 : decode cL_law 265 = .ok (.iadd, 1) := by decide +kernel
theorem dL_law_266 : decode cL_law 266 = .ok (.iaload, 1) := by decide +kernel
theorem dL_law_267 : decode cL_law 267 = .ok (.invokevirtual 36, 3) := by decide +kernel
theorem dL_law_270 : decode cL_law 270 = .ok (.aload_n 2, 1) := by decide +kernel
theorem dL_law_271 : decode cL_law 271 = .ok (.aload_n 0, 1) := by decide +kernel
theorem dL_law_272 : decode cL_law 272 = .ok (.iload_n 3, 1) := by decide +kernel
theorem dL_law_273 : decode cL_law 273 = .ok (.iconst 1, 1) := by decide +kernel
theorem dL_law_274 : decode cL_law 274 = .ok (.iadd, 1) := by decide +kernel
theorem dL_law_275 : decode cL_law 275 = .ok (.iaload, 1) := by decide +kernel
theorem dL_law_276 : decode cL_law 276 = .ok (.aload_n 0, 1) := by decide +kernel
theorem dL_law_277 : decode cL_law 277 = .ok (.iload_n 3, 1) := by decide +kernel
theorem dL_law_278 : decode cL_law 278 = .ok (.iconst 2, 1) := by decide +kernel
theorem dL_law_279 : decode cL_law 279 = .ok (.iadd, 1) := by decide +kernel
theorem dL_law_280 : decode cL_law 280 = .ok (.iaload, 1) := by decide +kernel
theorem dL_law_281 : decode cL_law 281 = .ok (.aload_n 0, 1) := by decide +kernel
theorem dL_law_282 : decode cL_law 282 = .ok (.iload_n 3, 1) := by decide +kernel
theorem dL_law_283 : decode cL_law 283 = .ok (.iconst 3, 1) := by decide +kernel
theorem dL_law_284 : decode cL_law 284 = .ok (.iadd, 1) := by decide +kernel
theorem dL_law_285 : decode cL_law 285 = .ok (.iaload, 1) := by decide +kernel
theorem dL_law_286 : decode cL_law 286 = .ok (.invokevirtual 40, 3) := by decide +kernel
theorem dL_law_289 : decode cL_law 289 = .ok (.if_icmp .eq 538, 3) := by decide +kernel
theorem dL_law_292 : decode cL_law 292 = .ok (.iconst 0, 1) := by decide +kernel
theorem dL_law_293 : decode cL_law 293 = .ok (.ireturn, 1) := by decide +kernel
theorem dL_law_294 : decode cL_law 294 = .ok (.aload_n 1, 1) := by decide +kernel
theorem dL_law_295 : decode cL_law 295 = .ok (.aload_n 0, 1) := by decide +kernel
theorem dL_law_296 : decode cL_law 296 = .ok (.iload_n 3, 1) := by decide +kernel
theorem dL_law_297 : decode cL_law 297 = .ok (.iconst 1, 1) := by decide +kernel
theorem dL_law_298 : decode cL_law 298 = .ok (.iadd, 1) := by decide +kernel
theorem dL_law_299 : decode cL_law 299 = .ok (.iaload, 1) := by decide +kernel
theorem dL_law_300 : decode cL_law 300 = .ok (.invokevirtual 41, 3) := by decide +kernel
theorem dL_law_303 : decode cL_law 303 = .ok (.aload_n 2, 1) := by decide +kernel
theorem dL_law_304 : decode cL_law 304 = .ok (.aload_n 0, 1) := by decide +kernel
theorem dL_law_305 : decode cL_law 305 = .ok (.iload_n 3, 1) := by decide +kernel
theorem dL_law_306 : decode cL_law 306 = .ok (.iconst 1, 1) := by decide +kernel
theorem dL_law_307 : decode cL_law 307 = .ok (.iadd, 1) := by decide +kernel
theorem dL_law_308 : decode cL_law 308 = .ok (.iaload, 1) := by decide +kernel
theorem dL_law_309 : decode cL_law 309 = .ok (.invokevirtual 44, 3) := by decide +kernel
theorem dL_law_312 : decode cL_law 312 = .ok (.if_icmp .eq 515, 3) := by decide +kernel
theorem dL_law_315 : decode cL_law 315 = .ok (.iconst 0, 1) := by decide +kernel
theorem dL_law_316 : decode cL_law 316 = .ok (.ireturn, 1) := by decide +kernel
theorem dL_law_317 : decode cL_law 317 = .ok (.aload_n 1, 1) := by decide +kernel
theorem dL_law_318 : decode cL_law 318 = .ok (.aload_n 0, 1) := by decide +kernel
theorem dL_law_319 : decode cL_law 319 = .ok (.iload_n 3, 1) := by decide +kernel
theorem dL_law_320 : decode cL_law 320 = .ok (.iconst 1, 1) := by decide +kernel
theorem dL_law_321 : decode cL_law 321 = .ok (.iadd, 1) := by decide +kernel
theorem dL_law_322 : decode cL_law 322 = .ok (.iaload, 1) := by decide +kernel
theorem dL_law_323 : decode cL_law 323 = .ok (.aload_n 0, 1) := by decide +kernel
theorem dL_law_324 : decode cL_law 324 = .ok (.iload_n 3, 1) := by decide +kernel
theorem dL_law_325 : decode cL_law 325 = .ok (.iconst 2, 1) := by decide +kernel
theorem dL_law_326 : decode cL_law 326 = .ok (.iadd, 1) := by decide +kernel
theorem dL_law_327 : decode cL_law 327 = .ok (.iaload, 1) := by decide +kernel
theorem dL_law_328 : decode cL_law 328 = .ok (.aload_n 0, 1) := by decide +kernel
theorem dL_law_329 : decode cL_law 329 = .ok (.iload_n 3, 1) := by decide +kernel
theorem dL_law_330 : decode cL_law 330 = .ok (.iconst 3, 1) := by decide +kernel
theorem dL_law_331 : decode cL_law 331 = .ok (.iadd, 1) := by decide +kernel
theorem dL_law_332 : decode cL_law 332 = .ok (.iaload, 1) := by decide +kernel
theorem dL_law_333 : decode cL_law 333 = .ok (.invokevirtual 45, 3) := by decide +kernel
theorem dL_law_336 : decode cL_law 336 = .ok (.aload_n 2, 1) := by decide +kernel
theorem dL_law_337 : decode cL_law 337 = .ok (.aload_n 0, 1) := by decide +kernel
theorem dL_law_338 : decode cL_law 338 = .ok (.iload_n 3, 1) := by decide +kernel
theorem dL_law_339 : decode cL_law 339 = .ok (.iconst 1, 1) := by decide +kernel
theorem dL_law_340 : decode cL_law 340 = .ok (.iadd, 1) := by decide +kernel
theorem dL_law_341 : decode cL_law 341 = .ok (.iaload, 1) := by decide +kernel
theorem dL_law_342 : decode cL_law 342 = .ok (.aload_n 0, 1) := by decide +kernel
theorem dL_law_343 : decode cL_law 343 = .ok (.iload_n 3, 1) := by decide +kernel
theorem dL_law_344 : decode cL_law 344 = .ok (.iconst 2, 1) := by decide +kernel
theorem dL_law_345 : decode cL_law 345 = .ok (.iadd, 1) := by decide +kernel
theorem dL_law_346 : decode cL_law 346 = .ok (.iaload, 1) := by decide +kernel
theorem dL_law_347 : decode cL_law 347 = .ok (.aload_n 0, 1) := by decide +kernel
theorem dL_law_348 : decode cL_law 348 = .ok (.iload_n 3, 1) := by decide +kernel
theorem dL_law_349 : decode cL_law 349 = .ok (.iconst 3, 1) := by decide +kernel
theorem dL_law_350 : decode cL_law 350 = .ok (.iadd, 1) := by decide +kernel
theorem dL_law_351 : decode cL_law 351 = .ok (.iaload, 1) := by decide +kernel
theorem dL_law_352 : decode cL_law 352 = .ok (.invokevirtual 48, 3) := by decide +kernel
theorem dL_law_355 : decode cL_law 355 = .ok (.if_icmp .eq 472, 3) := by decide +kernel
theorem dL_law_358 : decode cL_law 358 = .ok (.iconst 0, 1) := by decide +kernel
theorem dL_law_359 : decode cL_law 359 = .ok (.ireturn, 1) := by decide +kernel
theorem dL_law_360 : decode cL_law 360 = .ok (.aload_n 1, 1) := by decide +kernel
theorem dL_law_361 : decode cL_law 361 = .ok (.aload_n 0, 1) := by decide +kernel
theorem dL_law_362 : decode cL_law 362 = .ok (.iload_n 3, 1) := by decide +kernel
theorem dL_law_363 : decode cL_law 363 = .ok (.iconst 1, 1) := by decide +kernel
theorem dL_law_364 : decode cL_law 364 = .ok (.iadd, 1) := by decide +kernel
theorem dL_law_365 : decode cL_law 365 = .ok (.iaload, 1) := by decide +kernel
theorem dL_law_366 : decode cL_law 366 = .ok (.invokevirtual 49, 3) := by decide +kernel
theorem dL_law_369 : decode cL_law 369 = .ok (.aload_n 2, 1) := by decide +kernel
theorem dL_law_370 : decode cL_law 370 = .ok (.aload_n 0, 1) := by decide +kernel
theorem dL_law_371 : decode cL_law 371 = .ok (.iload_n 3, 1) := by decide +kernel
theorem dL_law_372 : decode cL_law 372 = .ok (.iconst 1, 1) := by decide +kernel
theorem dL_law_373 : decode cL_law 373 = .ok (.iadd, 1) := by decide +kernel
theorem dL_law_374 : decode cL_law 374 = .ok (.iaload, 1) := by decide +kernel
theorem dL_law_375 : decode cL_law 375 = .ok (.invokevirtual 52, 3) := by decide +kernel
theorem dL_law_378 : decode cL_law 378 = .ok (.if_icmp .eq 449, 3) := by decide +kernel
theorem dL_law_381 : decode cL_law 381 = .ok (.iconst 0, 1) := by decide +kernel
theorem dL_law_382 : decode cL_law 382 = .ok (.ireturn, 1) := by decide +kernel
theorem dL_law_383 : decode cL_law 383 = .ok (.aload_n 1, 1) := by decide +kernel
theorem dL_law_384 : decode cL_law 384 = .ok (.aload_n 0, 1) := by decide +kernel
theorem dL_law_385 : decode cL_law 385 = .ok (.iload_n 3, 1) := by decide +kernel
theorem dL_law_386 : decode cL_law 386 = .ok (.iconst 1, 1) := by decide +kernel
theorem dL_law_387 : decode cL_law 387 = .ok (.iadd, 1) := by decide +kernel
theorem dL_law_388 : decode cL_law 388 = .ok (.iaload, 1) := by decide +kernel
theorem dL_law_389 : decode cL_law 389 = .ok (.aload_n 0, 1) := by decide +kernel
theorem dL_law_390 : decode cL_law 390 = .ok (.iload_n 3, 1) := by decide +kernel
theorem dL_law_391 : decode cL_law 391 = .ok (.iconst 2, 1) := by decide +kernel
theorem dL_law_392 : decode cL_law 392 = .ok (.iadd, 1) := by decide +kernel
theorem dL_law_393 : decode cL_law 393 = .ok (.iaload, 1) := by decide +kernel
theorem dL_law_394 : decode cL_law 394 = .ok (.invokevirtual 53, 3) := by decide +kernel
theorem dL_law_397 : decode cL_law 397 = .ok (.aload_n 2, 1) := by decide +kernel
theorem dL_law_398 : decode cL_law 398 = .ok (.aload_n 0, 1) := by decide +kernel
theorem dL_law_399 : decode cL_law 399 = .ok (.iload_n 3, 1) := by decide +kernel
theorem dL_law_400 : decode cL_law 400 = .ok (.iconst 1, 1) := by decide +kernel
theorem dL_law_401 : decode cL_law 401 = .ok (.iadd, 1) := by decide +kernel
theorem dL_law_402 : decode cL_law 402 = .ok (.iaload, 1) := by decide +kernel
theorem dL_law_403 : decode cL_law 403 = .ok (.aload_n 0, 1) := by decide +kernel
theorem dL_law_404 : decode cL_law 404 = .ok (.iload_n 3, 1) := by decide +kernel
theorem dL_law_405 : decode cL_law 405 = .ok (.iconst 2, 1) := by decide +kernel
theorem dL_law_406 : decode cL_law 406 = .ok (.iadd, 1) := by decide +kernel
theorem dL_law_407 : decode cL_law 407 = .ok (.iaload, 1) := by decide +kernel
theorem dL_law_408 : decode cL_law 408 = .ok (.invokevirtual 56, 3) := by decide +kernel
theorem dL_law_411 : decode cL_law 411 = .ok (.if_icmp .eq 416, 3) := by decide +kernel
theorem dL_law_414 : decode cL_law 414 = .ok (.iconst 0, 1) := by decide +kernel
theorem dL_law_415 : decode cL_law 415 = .ok (.ireturn, 1) := by decide +kernel
theorem dL_law_416 : decode cL_law 416 = .ok (.aload_n 1, 1) := by decide +kernel
theorem dL_law_417 : decode cL_law 417 = .ok (.aload_n 0, 1) := by decide +kernel
theorem dL_law_418 : decode cL_law 418 = .ok (.iload_n 3, 1) := by decide +kernel
theorem dL_law_419 : decode cL_law 419 = .ok (.iconst 1, 1) := by decide +kernel
theorem dL_law_420 : decode cL_law 420 = .ok (.iadd, 1) := by decide +kernel
theorem dL_law_421 : decode cL_law 421 = .ok (.iaload, 1) := by decide +kernel
theorem dL_law_422 : decode cL_law 422 = .ok (.aload_n 0, 1) := by decide +kernel
theorem dL_law_423 : decode cL_law 423 = .ok (.iload_n 3, 1) := by decide +kernel
theorem dL_law_424 : decode cL_law 424 = .ok (.iconst 2, 1) := by decide +kernel
theorem dL_law_425 : decode cL_law 425 = .ok (.iadd, 1) := by decide +kernel
theorem dL_law_426 : decode cL_law 426 = .ok (.iaload, 1) := by decide +kernel
theorem dL_law_427 : decode cL_law 427 = .ok (.aload_n 0, 1) := by decide +kernel
theorem dL_law_428 : decode cL_law 428 = .ok (.iload_n 3, 1) := by decide +kernel
theorem dL_law_429 : decode cL_law 429 = .ok (.iconst 3, 1) := by decide +kernel
theorem dL_law_430 : decode cL_law 430 = .ok (.iadd, 1) := by decide +kernel
theorem dL_law_431 : decode cL_law 431 = .ok (.iaload, 1) := by decide +kernel
theorem dL_law_432 : decode cL_law 432 = .ok (.invokevirtual 57, 3) := by decide +kernel
theorem dL_law_435 : decode cL_law 435 = .ok (.aload_n 2, 1) := by decide +kernel
theorem dL_law_436 : decode cL_law 436 = .ok (.aload_n 0, 1) := by decide +kernel
theorem dL_law_437 : decode cL_law 437 = .ok (.iload_n 3, 1) := by decide +kernel
theorem dL_law_438 : decode cL_law 438 = .ok (.iconst 1, 1) := by decide +kernel
theorem dL_law_439 : decode cL_law 439 = .ok (.iadd, 1) := by decide +kernel
theorem dL_law_440 : decode cL_law 440 = .ok (.iaload, 1) := by decide +kernel
theorem dL_law_441 : decode cL_law 441 = .ok (.aload_n 0, 1) := by decide +kernel
theorem dL_law_442 : decode cL_law 442 = .ok (.iload_n 3, 1) := by decide +kernel
theorem dL_law_443 : decode cL_law 443 = .ok (.iconst 2, 1) := by decide +kernel
theorem dL_law_444 : decode cL_law 444 = .ok (.iadd, 1) := by decide +kernel
theorem dL_law_445 : decode cL_law 445 = .ok (.iaload, 1) := by decide +kernel
theorem dL_law_446 : decode cL_law 446 = .ok (.aload_n 0, 1) := by decide +kernel
theorem dL_law_447 : decode cL_law 447 = .ok (.iload_n 3, 1) := by decide +kernel
theorem dL_law_448 : decode cL_law 448 = .ok (.iconst 3, 1) := by decide +kernel
theorem dL_law_449 : decode cL_law 449 = .ok (.iadd, 1) := by decide +kernel
theorem dL_law_450 : decode cL_law 450 = .ok (.iaload, 1) := by decide +kernel
theorem dL_law_451 : decode cL_law 451 = .ok (.invokevirtual 60, 3) := by decide +kernel
theorem dL_law_454 : decode cL_law 454 = .ok (.if_icmp .eq 373, 3) := by decide +kernel
theorem dL_law_457 : decode cL_law 457 = .ok (.iconst 0, 1) := by decide +kernel
theorem dL_law_458 : decode cL_law 458 = .ok (.ireturn, 1) := by decide +kernel
theorem dL_law_459 : decode cL_law 459 = .ok (.aload_n 1, 1) := by decide +kernel
theorem dL_law_460 : decode cL_law 460 = .ok (.aload_n 0, 1) := by decide +kernel
theorem dL_law_461 : decode cL_law 461 = .ok (.iload_n 3, 1) := by decide +kernel
theorem dL_law_462 : decode cL_law 462 = .ok (.iconst 1, 1) := by decide +kernel
theorem dL_law_463 : decode cL_law 463 = .ok (.iadd, 1) := by decide +kernel
theorem dL_law_464 : decode cL_law 464 = .ok (.iaload, 1) := by decide +kernel
theorem dL_law_465 : decode cL_law 465 = .ok (.invokevirtual 61, 3) := by decide +kernel
theorem dL_law_468 : decode cL_law 468 = .ok (.aload_n 2, 1) := by decide +kernel
theorem dL_law_469 : decode cL_law 469 = .ok (.aload_n 0, 1) := by decide +kernel
theorem dL_law_470 : decode cL_law 470 = .ok (.iload_n 3, 1) := by decide +kernel
theorem dL_law_471 : decode cL_law 471 = .ok (.iconst 1, 1) := by decide +kernel
theorem dL_law_472 : decode cL_law 472 = .ok (.iadd, 1) := by decide +kernel
theorem dL_law_473 : decode cL_law 473 = .ok (.iaload, 1) := by decide +kernel
theorem dL_law_474 : decode cL_law 474 = .ok (.invokevirtual 64, 3) := by decide +kernel
theorem dL_law_477 : decode cL_law 477 = .ok (.if_icmp .eq 350, 3) := by decide +kernel
theorem dL_law_480 : decode cL_law 480 = .ok (.iconst 0, 1) := by decide +kernel
theorem dL_law_481 : decode cL_law 481 = .ok (.ireturn, 1) := by decide +kernel
theorem dL_law_482 : decode cL_law 482 = .ok (.aload_n 1, 1) := by decide +kernel
theorem dL_law_483 : decode cL_law 483 = .ok (.aload_n 0, 1) := by decide +kernel
theorem dL_law_484 : decode cL_law 484 = .ok (.iload_n 3, 1) := by decide +kernel
theorem dL_law_485 : decode cL_law 485 = .ok (.iconst 1, 1) := by decide +kernel
theorem dL_law_486 : decode cL_law 486 = .ok (.iadd, 1) := by decide +kernel
theorem dL_law_487 : decode cL_law 487 = .ok (.iaload, 1) := by decide +kernel
theorem dL_law_488 : decode cL_law 488 = .ok (.invokevirtual 65, 3) := by decide +kernel
theorem dL_law_491 : decode cL_law 491 = .ok (.aload_n 2, 1) := by decide +kernel
theorem dL_law_492 : decode cL_law 492 = .ok (.aload_n 0, 1) := by decide +kernel
theorem dL_law_493 : decode cL_law 493 = .ok (.iload_n 3, 1) := by decide +kernel
theorem dL_law_494 : decode cL_law 494 = .ok (.iconst 1, 1) := by decide +kernel
theorem dL_law_495 : decode cL_law 495 = .ok (.iadd, 1) := by decide +kernel
theorem dL_law_496 : decode cL_law 496 = .ok (.iaload, 1) := by decide +kernel
theorem dL_law_497 : decode cL_law 497 = .ok (.invokevirtual 68, 3) := by decide +kernel
theorem dL_law_500 : decode cL_law 500 = .ok (.if_icmp .eq 327, 3) := by decide +kernel
theorem dL_law_503 : decode cL_law 503 = .ok (.iconst 0, 1) := by decide +kernel
theorem dL_law_504 : decode cL_law 504 = .ok (.ireturn, 1) := by decide +kernel
theorem dL_law_505 : decode cL_law 505 = .ok (.aload_n 1, 1) := by decide +kernel
theorem dL_law_506 : decode cL_law 506 = .ok (.invokevirtual 69, 3) := by decide +kernel
theorem dL_law_509 : decode cL_law 509 = .ok (.aload_n 2, 1) := by decide +kernel
theorem dL_law_510 : decode cL_law 510 = .ok (.invokevirtual 72, 3) := by decide +kernel
theorem dL_law_513 : decode cL_law 513 = .ok (.if_icmp .eq 314, 3) := by decide +kernel
theorem dL_law_516 : decode cL_law 516 = .ok (.iconst 0, 1) := by decide +kernel
theorem dL_law_517 : decode cL_law 517 = .ok (.ireturn, 1) := by decide +kernel
theorem dL_law_518 : decode cL_law 518 = .ok (.aload_n 1, 1) := by decide +kernel
theorem dL_law_519 : decode cL_law 519 = .ok (.aload_n 0, 1) := by decide +kernel
theorem dL_law_520 : decode cL_law 520 = .ok (.iload_n 3, 1) := by decide +kernel
theorem dL_law_521 : decode cL_law 521 = .ok (.iconst 1, 1) := by decide +kernel
theorem dL_law_522 : decode cL_law 522 = .ok (.iadd, 1) := by decide +kernel
theorem dL_law_523 : decode cL_law 523 = .ok (.iaload, 1) := by decide +kernel
theorem dL_law_524 : decode cL_law 524 = .ok (.invokevirtual 73, 3) := by decide +kernel
theorem dL_law_527 : decode cL_law 527 = .ok (.aload_n 2, 1) := by decide +kernel
theorem dL_law_528 : decode cL_law 528 = .ok (.aload_n 0, 1) := by decide +kernel
theorem dL_law_529 : decode cL_law 529 = .ok (.iload_n 3, 1) := by decide +kernel
theorem dL_law_530 : decode cL_law 530 = .ok (.iconst 1, 1) := by decide +kernel
theorem dL_law_531 : decode cL_law 531 = .ok (.iadd, 1) := by decide +kernel
theorem dL_law_532 : decode cL_law 532 = .ok (.iaload, 1) := by decide +kernel
theorem dL_law_533 : decode cL_law 533 = .ok (.invokevirtual 76, 3) := by decide +kernel
theorem dL_law_536 : decode cL_law 536 = .ok (.if_icmp .eq 291, 3) := by decide +kernel
theorem dL_law_539 : decode cL_law 539 = .ok (.iconst 0, 1) := by decide +kernel
theorem dL_law_540 : decode cL_law 540 = .ok (.ireturn, 1) := by decide +kernel
theorem dL_law_541 : decode cL_law 541 = .ok (.aload_n 1, 1) := by decide +kernel
theorem dL_law_542 : decode cL_law 542 = .ok (.aload_n 0, 1) := by decide +kernel
theorem dL_law_543 : decode cL_law 543 = .ok (.iload_n 3, 1) := by decide +kernel
theorem dL_law_544 : decode cL_law 544 = .ok (.iconst 1, 1) := by decide +kernel
theorem dL_law_545 : decode cL_law 545 = .ok (.iadd, 1) := by decide +kernel
theorem dL_law_546 : decode cL_law 546 = .ok (.iaload, 1) := by decide +kernel
theorem dL_law_547 : decode cL_law 547 = .ok (.invokevirtual 77, 3) := by decide +kernel
theorem dL_law_550 : decode cL_law 550 = .ok (.aload_n 2, 1) := by decide +kernel
theorem dL_law_551 : decode cL_law 551 = .ok (.aload_n 0, 1) := by decide +kernel
theorem dL_law_552 : decode cL_law 552 = .ok (.iload_n 3, 1) := by decide +kernel
theorem dL_law_553 : decode cL_law 553 = .ok (.iconst 1, 1) := by decide +kernel
theorem dL_law_554 : decode cL_law 554 = .ok (.iadd, 1) := by decide +kernel
theorem dL_law_555 : decode cL_law 555 = .ok (.iaload, 1) := by decide +kernel
theorem dL_law_556 : decode cL_law 556 = .ok (.invokevirtual 80, 3) := by decide +kernel
theorem dL_law_559 : decode cL_law 559 = .ok (.if_icmp .eq 268, 3) := by decide +kernel
theorem dL_law_562 : decode cL_law 562 = .ok (.iconst 0, 1) := by decide +kernel
theorem dL_law_563 : decode cL_law 563 = .ok (.ireturn, 1) := by decide +kernel
theorem dL_law_564 : decode cL_law 564 = .ok (.aload_n 1, 1) := by decide +kernel
theorem dL_law_565 : decode cL_law 565 = .ok (.aload_n 0, 1) := by decide +kernel
theorem dL_law_566 : decode cL_law 566 = .ok (.iload_n 3, 1) := by decide +kernel
theorem dL_law_567 : decode cL_law 567 = .ok (.iconst 1, 1) := by decide +kernel
theorem dL_law_568 : decode cL_law 568 = .ok (.iadd, 1) := by decide +kernel
theorem dL_law_569 : decode cL_law 569 = .ok (.iaload, 1) := by decide +kernel
theorem dL_law_570 : decode cL_law 570 = .ok (.invokevirtual 81, 3) := by decide +kernel
theorem dL_law_573 : decode cL_law 573 = .ok (.aload_n 2, 1) := by decide +kernel
theorem dL_law_574 : decode cL_law 574 = .ok (.aload_n 0, 1) := by decide +kernel
theorem dL_law_575 : decode cL_law 575 = .ok (.iload_n 3, 1) := by decide +kernel
theorem dL_law_576 : decode cL_law 576 = .ok (.iconst 1, 1) := by decide +kernel
theorem dL_law_577 : decode cL_law 577 = .ok (.iadd, 1) := by decide +kernel
theorem dL_law_578 : decode cL_law 578 = .ok (.iaload, 1) := by decide +kernel
theorem dL_law_579 : decode cL_law 579 = .ok (.invokevirtual 84, 3) := by decide +kernel
theorem dL_law_582 : decode cL_law 582 = .ok (.if_icmp .eq 245, 3) := by decide +kernel
theorem dL_law_585 : decode cL_law 585 = .ok (.iconst 0, 1) := by decide +kernel
theorem dL_law_586 : decode cL_law 586 = .ok (.ireturn, 1) := by decide +kernel
theorem dL_law_587 : decode cL_law 587 = .ok (.aload_n 1, 1) := by decide +kernel
theorem dL_law_588 : decode cL_law 588 = .ok (.aload_n 0, 1) := by decide +kernel
theorem dL_law_589 : decode cL_law 589 = .ok (.iload_n 3, 1) := by decide +kernel
theorem dL_law_590 : decode cL_law 590 = .ok (.iconst 1, 1) := by decide +kernel
theorem dL_law_591 : decode cL_law 591 = .ok (.iadd, 1) := by decide +kernel
theorem dL_law_592 : decode cL_law 592 = .ok (.iaload, 1) := by decide +kernel
theorem dL_law_593 : decode cL_law 593 = .ok (.invokevirtual 85, 3) := by decide +kernel
theorem dL_law_596 : decode cL_law 596 = .ok (.aload_n 2, 1) := by decide +kernel
theorem dL_law_597 : decode cL_law 597 = .ok (.aload_n 0, 1) := by decide +kernel
theorem dL_law_598 : decode cL_law 598 = .ok (.iload_n 3, 1) := by decide +kernel
theorem dL_law_599 : decode cL_law 599 = .ok (.iconst 1, 1) := by decide +kernel
theorem dL_law_600 : decode cL_law 600 = .ok (.iadd, 1) := by decide +kernel
theorem dL_law_601 : decode cL_law 601 = .ok (.iaload, 1) := by decide +kernel
theorem dL_law_602 : decode cL_law 602 = .ok (.invokevirtual 88, 3) := by decide +kernel
theorem dL_law_605 : decode cL_law 605 = .ok (.if_icmp .eq 222, 3) := by decide +kernel
theorem dL_law_608 : decode cL_law 608 = .ok (.iconst 0, 1) := by decide +kernel
theorem dL_law_609 : decode cL_law 609 = .ok (.ireturn, 1) := by decide +kernel
theorem dL_law_610 : decode cL_law 610 = .ok (.aload_n 1, 1) := by decide +kernel
theorem dL_law_611 : decode cL_law 611 = .ok (.aload_n 0, 1) := by decide +kernel
theorem dL_law_612 : decode cL_law 612 = .ok (.iload_n 3, 1) := by decide +kernel
theorem dL_law_613 : decode cL_law 613 = .ok (.iconst 1, 1) := by decide +kernel
theorem dL_law_614 : decode cL_law 614 = .ok (.iadd, 1) := by decide +kernel
theorem dL_law_615 : decode cL_law 615 = .ok (.iaload, 1) := by decide +kernel
theorem dL_law_616 : decode cL_law 616 = .ok (.aload_n 0, 1) := by decide +kernel
theorem dL_law_617 : decode cL_law 617 = .ok (.iload_n 3, 1) := by decide +kernel
theorem dL_law_618 : decode cL_law 618 = .ok (.iconst 2, 1) := by decide +kernel
theorem dL_law_619 : decode cL_law 619 = .ok (.iadd, 1) := by decide +kernel
theorem dL_law_620 : decode cL_law 620 = .ok (.iaload, 1) := by decide +kernel
theorem dL_law_621 : decode cL_law 621 = .ok (.invokevirtual 89, 3) := by decide +kernel
theorem dL_law_624 : decode cL_law 624 = .ok (.aload_n 2, 1) := by decide +kernel
theorem dL_law_625 : decode cL_law 625 = .ok (.aload_n 0, 1) := by decide +kernel
theorem dL_law_626 : decode cL_law 626 = .ok (.iload_n 3, 1) := by decide +kernel
theorem dL_law_627 : decode cL_law 627 = .ok (.iconst 1, 1) := by decide +kernel
theorem dL_law_628 : decode cL_law 628 = .ok (.iadd, 1) := by decide +kernel
theorem dL_law_629 : decode cL_law 629 = .ok (.iaload, 1) := by decide +kernel
theorem dL_law_630 : decode cL_law 630 = .ok (.aload_n 0, 1) := by decide +kernel
theorem dL_law_631 : decode cL_law 631 = .ok (.iload_n 3, 1) := by decide +kernel
theorem dL_law_632 : decode cL_law 632 = .ok (.iconst 2, 1) := by decide +kernel
theorem dL_law_633 : decode cL_law 633 = .ok (.iadd, 1) := by decide +kernel
theorem dL_law_634 : decode cL_law 634 = .ok (.iaload, 1) := by decide +kernel
theorem dL_law_635 : decode cL_law 635 = .ok (.invokevirtual 92, 3) := by decide +kernel
theorem dL_law_638 : decode cL_law 638 = .ok (.if_icmp .eq 189, 3) := by decide +kernel
theorem dL_law_641 : decode cL_law 641 = .ok (.iconst 0, 1) := by decide +kernel
theorem dL_law_642 : decode cL_law 642 = .ok (.ireturn, 1) := by decide +kernel
theorem dL_law_643 : decode cL_law 643 = .ok (.aload_n 1, 1) := by decide +kernel
theorem dL_law_644 : decode cL_law 644 = .ok (.aload_n 0, 1) := by decide +kernel
theorem dL_law_645 : decode cL_law 645 = .ok (.iload_n 3, 1) := by decide +kernel
theorem dL_law_646 : decode cL_law 646 = .ok (.iconst 1, 1) := by decide +kernel
theorem dL_law_647 : decode cL_law 647 = .ok (.iadd, 1) := by decide +kernel
theorem dL_law_648 : decode cL_law 648 = .ok (.iaload, 1) := by decide +kernel
theorem dL_law_649 : decode cL_law 649 = .ok (.invokevirtual 93, 3) := by decide +kernel
theorem dL_law_652 : decode cL_law 652 = .ok (.aload_n 2, 1) := by decide +kernel
theorem dL_law_653 : decode cL_law 653 = .ok (.aload_n 0, 1) := by decide +kernel
theorem dL_law_654 : decode cL_law 654 = .ok (.iload_n 3, 1) := by decide +kernel
theorem dL_law_655 : decode cL_law 655 = .ok (.iconst 1, 1) := by decide +kernel
theorem dL_law_656 : decode cL_law 656 = .ok (.iadd, 1) := by decide +kernel
theorem dL_law_657 : decode cL_law 657 = .ok (.iaload, 1) := by decide +kernel
theorem dL_law_658 : decode cL_law 658 = .ok (.invokevirtual 96, 3) := by decide +kernel
theorem dL_law_661 : decode cL_law 661 = .ok (.if_icmp .eq 166, 3) := by decide +kernel
theorem dL_law_664 : decode cL_law 664 = .ok (.iconst 0, 1) := by decide +kernel
theorem dL_law_665 : decode cL_law 665 = .ok (.ireturn, 1) := by decide +kernel
theorem dL_law_666 : decode cL_law 666 = .ok (.aload_n 1, 1) := by decide +kernel
theorem dL_law_667 : decode cL_law 667 = .ok (.aload_n 0, 1) := by decide +kernel
theorem dL_law_668 : decode cL_law 668 = .ok (.iload_n 3, 1) := by decide +kernel
theorem dL_law_669 : decode cL_law 669 = .ok (.iconst 1, 1) := by decide +kernel
theorem dL_law_670 : decode cL_law 670 = .ok (.iadd, 1) := by decide +kernel
theorem dL_law_671 : decode cL_law 671 = .ok (.iaload, 1) := by decide +kernel
theorem dL_law_672 : decode cL_law 672 = .ok (.invokevirtual 97, 3) := by decide +kernel
theorem dL_law_675 : decode cL_law 675 = .ok (.aload_n 2, 1) := by decide +kernel
theorem dL_law_676 : decode cL_law 676 = .ok (.aload_n 0, 1) := by decide +kernel
theorem dL_law_677 : decode cL_law 677 = .ok (.iload_n 3, 1) := by decide +kernel
theorem dL_law_678 : decode cL_law 678 = .ok (.iconst 1, 1) := by decide +kernel
theorem dL_law_679 : decode cL_law 679 = .ok (.iadd, 1) := by decide +kernel
theorem dL_law_680 : decode cL_law 680 = .ok (.iaload, 1) := by decide +kernel
theorem dL_law_681 : decode cL_law 681 = .ok (.invokevirtual 100, 3) := by decide +kernel
theorem dL_law_684 : decode cL_law 684 = .ok (.if_icmp .eq 143, 3) := by decide +kernel
theorem dL_law_687 : decode cL_law 687 = .ok (.iconst 0, 1) := by decide +kernel
theorem dL_law_688 : decode cL_law 688 = .ok (.ireturn, 1) := by decide +kernel
theorem dL_law_689 : decode cL_law 689 = .ok (.aload_n 1, 1) := by decide +kernel
theorem dL_law_690 : decode cL_law 690 = .ok (.aload_n 0, 1) := by decide +kernel
theorem dL_law_691 : decode cL_law 691 = .ok (.iload_n 3, 1) := by decide +kernel
theorem dL_law_692 : decode cL_law 692 = .ok (.iconst 1, 1) := by decide +kernel
theorem dL_law_693 : decode cL_law 693 = .ok (.iadd, 1) := by decide +kernel
theorem dL_law_694 : decode cL_law 694 = .ok (.iaload, 1) := by decide +kernel
theorem dL_law_695 : decode cL_law 695 = .ok (.invokevirtual 101, 3) := by decide +kernel
theorem dL_law_698 : decode cL_law 698 = .ok (.aload_n 2, 1) := by decide +kernel
theorem dL_law_699 : decode cL_law 699 = .ok (.aload_n 0, 1) := by decide +kernel
theorem dL_law_700 : decode cL_law 700 = .ok (.iload_n 3, 1) := by decide +kernel
theorem dL_law_701 : decode cL_law 701 = .ok (.iconst 1, 1) := by decide +kernel
theorem dL_law_702 : decode cL_law 702 = .ok (.iadd, 1) := by decide +kernel
theorem dL_law_703 : decode cL_law 703 = .ok (.iaload, 1) := by decide +kernel
theorem dL_law_704 : decode cL_law 704 = .ok (.invokevirtual 104, 3) := by decide +kernel
theorem dL_law_707 : decode cL_law 707 = .ok (.if_icmp .eq 120, 3) := by decide +kernel
theorem dL_law_710 : decode cL_law 710 = .ok (.iconst 0, 1) := by decide +kernel
theorem dL_law_711 : decode cL_law 711 = .ok (.ireturn, 1) := by decide +kernel
theorem dL_law_712 : decode cL_law 712 = .ok (.aload_n 1, 1) := by decide +kernel
theorem dL_law_713 : decode cL_law 713 = .ok (.aload_n 0, 1) := by decide +kernel
theorem dL_law_714 : decode cL_law 714 = .ok (.iload_n 3, 1) := by decide +kernel
theorem dL_law_715 : decode cL_law 715 = .ok (.iconst 1, 1) := by decide +kernel
theorem dL_law_716 : decode cL_law 716 = .ok (.iadd, 1) := by decide +kernel
theorem dL_law_717 : decode cL_law 717 = .ok (.iaload, 1) := by decide +kernel
theorem dL_law_718 : decode cL_law 718 = .ok (.invokevirtual 105, 3) := by decide +kernel
theorem dL_law_721 : decode cL_law 721 = .ok (.aload_n 2, 1) := by decide +kernel
theorem dL_law_722 : decode cL_law 722 = .ok (.aload_n 0, 1) := by decide +kernel
theorem dL_law_723 : decode cL_law 723 = .ok (.iload_n 3, 1) := by decide +kernel
theorem dL_law_724 : decode cL_law 724 = .ok (.iconst 1, 1) := by decide +kernel
theorem dL_law_725 : decode cL_law 725 = .ok (.iadd, 1) := by decide +kernel
theorem dL_law_726 : decode cL_law 726 = .ok (.iaload, 1) := by decide +kernel
theorem dL_law_727 : decode cL_law 727 = .ok (.invokevirtual 108, 3) := by decide +kernel
theorem dL_law_730 : decode cL_law 730 = .ok (.if_icmp .eq 97, 3) := by decide +kernel
theorem dL_law_733 : decode cL_law 733 = .ok (.iconst 0, 1) := by decide +kernel
theorem dL_law_734 : decode cL_law 734 = .ok (.ireturn, 1) := by decide +kernel
theorem dL_law_735 : decode cL_law 735 = .ok (.aload_n 1, 1) := by decide +kernel
theorem dL_law_736 : decode cL_law 736 = .ok (.aload_n 0, 1) := by decide +kernel
theorem dL_law_737 : decode cL_law 737 = .ok (.iload_n 3, 1) := by decide +kernel
theorem dL_law_738 : decode cL_law 738 = .ok (.iconst 1, 1) := by decide +kernel
theorem dL_law_739 : decode cL_law 739 = .ok (.iadd, 1) := by decide +kernel
theorem dL_law_740 : decode cL_law 740 = .ok (.iaload, 1) := by decide +kernel
theorem dL_law_741 : decode cL_law 741 = .ok (.invokevirtual 109, 3) := by decide +kernel
theorem dL_law_744 : decode cL_law 744 = .ok (.aload_n 2, 1) := by decide +kernel
theorem dL_law_745 : decode cL_law 745 = .ok (.aload_n 0, 1) := by decide +kernel
theorem dL_law_746 : decode cL_law 746 = .ok (.iload_n 3, 1) := by decide +kernel
theorem dL_law_747 : decode cL_law 747 = .ok (.iconst 1, 1) := by decide +kernel
theorem dL_law_748 : decode cL_law 748 = .ok (.iadd, 1) := by decide +kernel
theorem dL_law_749 : decode cL_law 749 = .ok (.iaload, 1) := by decide +kernel
theorem dL_law_750 : decode cL_law 750 = .ok (.invokevirtual 112, 3) := by decide +kernel
theorem dL_law_753 : decode cL_law 753 = .ok (.if_icmp .eq 74, 3) := by decide +kernel
theorem dL_law_756 : decode cL_law 756 = .ok (.iconst 0, 1) := by decide +kernel
theorem dL_law_757 : decode cL_law 757 = .ok (.ireturn, 1) := by decide +kernel
theorem dL_law_758 : decode cL_law 758 = .ok (.aload_n 1, 1) := by decide +kernel
theorem dL_law_759 : decode cL_law 759 = .ok (.aload_n 0, 1) := by decide +kernel
theorem dL_law_760 : decode cL_law 760 = .ok (.iload_n 3, 1) := by decide +kernel
theorem dL_law_761 : decode cL_law 761 = .ok (.iconst 1, 1) := by decide +kernel
theorem dL_law_762 : decode cL_law 762 = .ok (.iadd, 1) := by decide +kernel
theorem dL_law_763 : decode cL_law 763 = .ok (.iaload, 1) := by decide +kernel
theorem dL_law_764 : decode cL_law 764 = .ok (.invokevirtual 113, 3) := by decide +kernel
theorem dL_law_767 : decode cL_law 767 = .ok (.aload_n 2, 1) := by decide +kernel
theorem dL_law_768 : decode cL_law 768 = .ok (.aload_n 0, 1) := by decide +kernel
theorem dL_law_769 : decode cL_law 769 = .ok (.iload_n 3, 1) := by decide +kernel
theorem dL_law_770 : decode cL_law 770 = .ok (.iconst 1, 1) := by decide +kernel
theorem dL_law_771 : decode cL_law 771 = .ok (.iadd, 1) := by decide +kernel
theorem dL_law_772 : decode cL_law 772 = .ok (.iaload, 1) := by decide +kernel
theorem dL_law_773 : decode cL_law 773 = .ok (.invokevirtual 116, 3) := by decide +kernel
theorem dL_law_776 : decode cL_law 776 = .ok (.if_icmp .eq 51, 3) := by decide +kernel
theorem dL_law_779 : decode cL_law 779 = .ok (.iconst 0, 1) := by decide +kernel
theorem dL_law_780 : decode cL_law 780 = .ok (.ireturn, 1) := by decide +kernel
theorem dL_law_781 : decode cL_law 781 = .ok (.aload_n 1, 1) := by decide +kernel
theorem dL_law_782 : decode cL_law 782 = .ok (.aload_n 0, 1) := by decide +kernel
theorem dL_law_783 : decode cL_law 783 = .ok (.iload_n 3, 1) := by decide +kernel
theorem dL_law_784 : decode cL_law 784 = .ok (.iconst 1, 1) := by decide +kernel
theorem dL_law_785 : decode cL_law 785 = .ok (.iadd, 1) := by decide +kernel
theorem dL_law_786 : decode cL_law 786 = .ok (.iaload, 1) := by decide +kernel
theorem dL_law_787 : decode cL_law 787 = .ok (.invokevirtual 117, 3) := by decide +kernel
theorem dL_law_790 : decode cL_law 790 = .ok (.aload_n 2, 1) := by decide +kernel
theorem dL_law_791 : decode cL_law 791 = .ok (.aload_n 0, 1) := by decide +kernel
theorem dL_law_792 : decode cL_law 792 = .ok (.iload_n 3, 1) := by decide +kernel
theorem dL_law_793 : decode cL_law 793 = .ok (.iconst 1, 1) := by decide +kernel
theorem dL_law_794 : decode cL_law 794 = .ok (.iadd, 1) := by decide +kernel
theorem dL_law_795 : decode cL_law 795 = .ok (.iaload, 1) := by decide +kernel
theorem dL_law_796 : decode cL_law 796 = .ok (.invokevirtual 120, 3) := by decide +kernel
theorem dL_law_799 : decode cL_law 799 = .ok (.if_icmp .eq 28, 3) := by decide +kernel
theorem dL_law_802 : decode cL_law 802 = .ok (.iconst 0, 1) := by decide +kernel
theorem dL_law_803 : decode cL_law 803 = .ok (.ireturn, 1) := by decide +kernel
theorem dL_law_804 : decode cL_law 804 = .ok (.aload_n 1, 1) := by decide +kernel
theorem dL_law_805 : decode cL_law 805 = .ok (.aload_n 0, 1) := by decide +kernel
theorem dL_law_806 : decode cL_law 806 = .ok (.iload_n 3, 1) := by decide +kernel
theorem dL_law_807 : decode cL_law 807 = .ok (.iconst 1, 1) := by decide +kernel
theorem dL_law_808 : decode cL_law 808 = .ok (.iadd, 1) := by decide +kernel
theorem dL_law_809 : decode cL_law 809 = .ok (.iaload, 1) := by decide +kernel
theorem dL_law_810 : decode cL_law 810 = .ok (.invokevirtual 121, 3) := by decide +kernel
theorem dL_law_813 : decode cL_law 813 = .ok (.aload_n 2, 1) := by decide +kernel
theorem dL_law_814 : decode cL_law 814 = .ok (.aload_n 0, 1) := by decide +kernel
theorem dL_law_815 : decode cL_law 815 = .ok (.iload_n 3, 1) := by decide +kernel
theorem dL_law_816 : decode cL_law 816 = .ok (.iconst 1, 1) := by decide +kernel
theorem dL_law_817 : decode cL_law 817 = .ok (.iadd, 1) := by decide +kernel
theorem dL_law_818 : decode cL_law 818 = .ok (.iaload, 1) := by decide +kernel
theorem dL_law_819 : decode cL_law 819 = .ok (.invokevirtual 124, 3) := by decide +kernel
theorem dL_law_822 : decode cL_law 822 = .ok (.if_icmp .eq 5, 3) := by decide +kernel
theorem dL_law_825 : decode cL_law 825 = .ok (.iconst 0, 1) := by decide +kernel
theorem dL_law_826 : decode cL_law 826 = .ok (.ireturn, 1) := by decide +kernel
theorem dL_law_827 : decode cL_law 827 = .ok (.iinc 3 4, 3) := by decide +kernel
theorem dL_law_830 : decode cL_law 830 = .ok (.goto (-812), 3) := by decide +kernel
theorem dL_law_833 : decode cL_law 833 = .ok (.iconst 1, 1) := by decide +kernel
theorem dL_law_834 : decode cL_law 834 = .ok (.ireturn, 1) := by decide +kernel
end
section
/-! THE SMALL MACHINE: values are whole numbers (of any size, told to the machine modulo 2^32), cells are rows of whole numbers -/
def xTb : List Cond := lw_tbl.filter goodWord
theorem xTb_mem {w : Cond} (i : Nat) (h : lw_tbl[i]? = some w) (g : goodWord w = true) : w ∈ xTb := List.mem_filter.mpr ⟨List.mem_of_getElem? h, g⟩
theorem xTb_good {w : Cond} (h : w ∈ xTb) : (w.onTables && w.keeps) = true ∨ ∃ ty, w = .arrayClass ty := good_of_word (List.mem_filter.mp h).2
theorem xGoodIn {y : MethodName} {cc : ByteArray} {n : Nat} {r : Option FieldType} (h : Cond.code y cc n r ∈ xTb) : GoodIn xTb (Cond.code y cc n r :: xTb) := fun w hw => by
  rcases List.mem_cons.mp hw with rfl | hw
  · exact ⟨h, xTb_good h⟩
  · exact ⟨hw, xTb_good hw⟩
abbrev XV : Type := Int ⊕ (Nat ⊕ Int)
abbrev vi (z : Int) : XV := Sum.inl z
abbrev vr (k : Nat) : XV := Sum.inr (Sum.inl k)
abbrev vl (z : Int) : XV := Sum.inr (Sum.inr z)
abbrev XH : Type := Nat → Int → Int
def hset (h : XH) (c : Nat) (k z : Int) : XH := fun c' k' => if c' = c ∧ k' = k then z else h c' k'
/-- launch, classes and slots, the first cell's address, array classes, the constant texts' addresses and their rows' -/
abbrev XK : Type := Launch × va_G × Nat × (Nat → ClassId) × (Nat → Nat) × (Nat → Nat)
def xad (K : XK) (k : Nat) : Nat := if k < 1000000 then K.2.2.1 + k else K.2.2.2.2.1 (k - 1000000)
def xv (K : XK) (v : XV) : Value := match v with
  | .inl z => .int (Int32.ofInt z)
  | .inr (.inl k) => .ref (xad K k)
  | .inr (.inr z) => .long (Int64.ofInt z)
def xro (K : XK) (z : Int) : Option Nat := if z ≤ 0 then none else some (K.2.2.1 + (z.toNat - 1))
def xFT (ci : Nat) : Nat → FieldType := match ci with
  | 0 => tyX0
  | 1 => tyX1
  | 2 => tyX2
  | 3 => tyX3
  | 4 => tyX4
  | 5 => tyX5
  | 6 => tyX6
  | 7 => tyX7
  | 8 => tyX8
  | _ => tyX9
/-- of a field: 0 whole number, 1 truth value, 2 reference -/
def xsort (t : FieldType) : Nat := match t with
  | .int => 0
  | .boolean => 1
  | _ => 2
def xFS (ci k : Nat) : Nat := xsort (xFT ci k)
def xSetT (o : Nat) : Nat × Nat := if o = 0 then (6, 4) else if o = 1 then (13, 8) else if (o - 2) % 3 = 0 then (1, 4) else (11, 4)
/-- what a cell is: below 10 an object of that class and how many fields; else an array (10 char, 11 int, 12 boolean, 13 Entry, 14 Setup, 15 int rows) and how long -/
def xTY (c : Nat) : Nat × Nat :=
  if c < 8 then [(8, 7), (7, 4), (10, 200), (11, 48), (4, 4), (11, 48), (11, 48), (12, 48)].getD c (0, 0)
  else if c < 34 then xSetT (c - 8)
  else if c < 36 then [(2, 2), (14, 6)].getD (c - 34) (0, 0)
  else if c < 192 then xSetT ((c - 36) % 26)
  else if c < 195 then [(3, 16), (11, 48), (15, 48)].getD (c - 192) (0, 0)
  else if c < 243 then (11, 5)
  else [(11, 49), (11, 48), (11, 49), (1, 4), (11, 4), (11, 4), (11, 48), (11, 48), (11, 48), (11, 48), (11, 192), (0, 6), (5, 17), (11, 10), (11, 12), (11, 4),
    (9, 31), (11, 200), (11, 48), (11, 48), (11, 48), (11, 48), (11, 48), (11, 93), (11, 498), (11, 49), (11, 48), (11, 49), (11, 10), (11, 12), (11, 5)].getD (c - 243) (0, 0)
/-- which cell (and one) a place holds for good, 0: it holds a number -/
def xRF (c k : Nat) : Nat :=
  if c < 8 then (if c = 0 then [2, 5, 9, 35, 193, 255, 256].getD k 0 else if c = 1 then [3, 4].getD k 0 else if c = 4 then [6, 7, 8].getD k 0 else 0)
  else if c < 192 then (if (xTY c).1 = 6 then (if k = 0 then c + 2 else 0) else if (xTY c).1 = 13 then (if k < 8 then c + 2 + 3 * k else 0) else if (xTY c).1 = 1 then (if k = 0 then c + 2 else if k = 1 then c + 3 else 0) else if (xTY c).1 = 2 then (if k = 0 then 36 else 0) else if (xTY c).1 = 14 then (if k < 6 then 37 + 26 * k else 0) else 0)
  else if c = 192 then [5, 9, 194, 195, 244, 245, 246, 247, 250, 251, 252, 253, 254].getD k 0
  else if c = 194 then (if k < 48 then 196 + k else 0)
  else if c < 246 then 0
  else if c = 246 then [248, 249].getD k 0
  else if c = 254 then [193, 9].getD k 0
  else if c = 255 then [5, 193, 257, 258, 259].getD k 0
  else if c = 259 then [0, 261, 0, 262, 263, 0, 264, 265, 266, 267, 268, 0, 269, 270, 271, 0, 0, 0, 0, 0, 0, 0, 0, 0, 272, 273, 0, 274].getD k 0
  else 0
def xe (K : XK) (t : Nat × Nat) (row : Int → Int) : va_E :=
  if t.1 < 10 then .inr (t.1, (List.range t.2).map fun (k : Nat) => if xFS t.1 k = 2 then va_rf (xro K (row k)) else .int (Int32.ofInt (row k)))
  else if t.1 < 13 then .inl (K.2.2.2.1 (t.1 - 10), t.2, .inl fun (j : Nat) => Int32.ofInt (row j))
  else .inl (K.2.2.2.1 (t.1 - 10), t.2, .inr (.inr (.inr (.inr fun (j : Nat) => xro K (row j)))))
def xw (K : XK) (n : Nat) (h : XH) : va_W := (List.range n).map fun c => (K.2.2.1 + c, xe K (xTY c) (h c))
theorem xw_get {K : XK} {n : Nat} {h : XH} {c : Nat} (hc : c < n) : (xw K n h)[c]? = some (K.2.2.1 + c, xe K (xTY c) (h c)) := by
  unfold xw
  rw [List.getElem?_map, List.getElem?_range hc]
  rfl
theorem xw_len {K : XK} {n : Nat} {h : XH} : (xw K n h).length = n := by simp [xw]
theorem xw_set {K : XK} {n : Nat} {h : XH} {c : Nat} {k z : Int} {e : va_E} (hc : c < n) (he : e = xe K (xTY c) (hset h c k z c)) : (xw K n h).set c (K.2.2.1 + c, e) = xw K n (hset h c k z) := by
  subst he
  apply List.ext_getElem?
  intro i
  by_cases hi : i < n
  · rw [xw_get hi]
    by_cases e : i = c
    · subst e
      rw [List.getElem?_set_self (by rw [xw_len]; exact hi)]
    · rw [List.getElem?_set_ne (Ne.symm e), xw_get hi]
      have : hset h c k z i = h i := by
        funext j
        simp [hset, e]
      rw [this]
  · rw [List.getElem?_eq_none (by rw [List.length_set, xw_len]; omega), List.getElem?_eq_none (by rw [xw_len]; omega)]
theorem xw_push {K : XK} {n : Nat} {h : XH} : xw K n h ++ [(K.2.2.1 + n, xe K (xTY n) (h n))] = xw K (n + 1) h := by
  simp [xw, List.range_succ]
def xA (K : XK) : Nat → Prop := fun q => K.2.2.1 ≤ q
theorem xw_D {K : XK} {n : Nat} {h : XH} : va_D (xA K) (xw K n h) := by
  have key : ∀ (i : Nat) (p : Nat × va_E), (xw K n h)[i]? = some p → p.1 = K.2.2.1 + i := by
    intro i p hp
    have hi : i < n := by
      have := (List.getElem?_eq_some_iff.mp hp).1
      rwa [xw_len] at this
    rw [xw_get hi] at hp
    cases hp
    rfl
  refine ⟨fun i j p q hi hj hpq => ?_, fun k q hk => ?_⟩
  · have h1 := key i p hi
    have h2 := key j q hj
    omega
  · rw [key k q hk]
    exact Nat.le_add_right _ _
def xtys (K : XK) : List (ClassId × FieldType) := [(K.2.2.2.1 0, .char), (K.2.2.2.1 1, .int), (K.2.2.2.1 2, .boolean), (K.2.2.2.1 3, .object RX1), (K.2.2.2.1 4, .object RX6), (K.2.2.2.1 5, .array .int)]
def xAOA (U : State) : Prop := (Cond.arrayOver (.array .int)).before #[] U = true
theorem xAOA_spec {args : Array Value} {first s : State} {o : Option Outcome} {idx : List Nat} (h : (Cond.arrayOver (.array .int)).holds args first o s idx = true) :
    ∃ comp c k, s.vm.findClass (FieldType.array .int).toString = some comp ∧ (s.vm.classes.findIdx? fun x => match x.kind with | .array component _ => component == comp | _ => false) = some c ∧ s.vm.classes[c]? = some k ∧ (∃ comp', k.kind = .array comp' (.array .int)) ∧
      s.vm.findClass ("[" ++ (FieldType.array .int).toString) = some c := by
  simp only [Cond.holds, Cond.value, beq_iff_eq] at h
  cases hc : s.vm.findClass (FieldType.array .int).toString with
  | none => simp [hc] at h
  | some comp =>
    simp only [hc, Option.bind_some, Option.bind_eq_some_iff, Option.map_eq_some_iff] at h
    obtain ⟨c, hi, k, hk, hb⟩ := h
    cases hkind : k.kind with
    | array component ty =>
      rw [hkind] at hb
      simp at hb
      exact ⟨comp, c, k, rfl, hi, hk, ⟨component, by rw [hkind, hb.1]⟩, hb.2⟩
    | _ => rw [hkind] at hb; simp at hb
theorem xAOA.moved {u U : State} (hvm : u.vm.Alike U.vm) (h : xAOA u) : xAOA U := by
  obtain ⟨comp, c, k, h1, h2, h3, ⟨comp', h4⟩, h5⟩ := xAOA_spec h
  obtain ⟨k', hk', he⟩ := hvm.2.2 _ _ h3
  have hi : (U.vm.classes.findIdx? fun (x : Class) => match x.kind with | .array component _ => component == comp | _ => false) = some c := by
    refine (va_idx_bare U.vm comp).symm.trans (Eq.trans ?_ ((va_idx_bare u.vm comp).trans h2))
    first | rw [hvm.bare_eq] | rw [← hvm.bare_eq]
  have hkind : k'.kind = .array comp' (.array .int) := by rw [he]; exact h4
  have f1 : U.vm.findClass (FieldType.array .int).toString = some comp := by rw [hvm.findClass]; exact h1
  have f2 : U.vm.findClass ("[" ++ (FieldType.array .int).toString) = some c := by rw [hvm.findClass]; exact h5
  unfold xAOA Cond.before Cond.holds
  simp only [Cond.value]
  rw [f1, Option.bind_some]
  refine (congrArg (fun o : Option Nat => (o.bind (fun c => (U.vm.classes[c]?).map fun (k : Class) => match k.kind with | .array _ ty => decide (ty = FieldType.array .int) && decide (U.vm.findClass ("[" ++ (FieldType.array .int).toString) = some c) | _ => false) == some true)) hi).trans ?_
  simp [hk', hkind, f2]
end
section
/-! the judgements: a walk (WX) and a contract (MX) of the small machine -/
/-- code, name, locals, answer, how many cells stand at least -/
abbrev XM : Type := ByteArray × MethodName × Nat × Option FieldType × Nat
def xXS (n : Nat) (h : XH) : Prop := ∀ c k : Nat, c < n → xRF c k ≠ 0 → h c k = xRF c k
def xTxt : List (List Int32) := [[97, 53, 115, 48, 97, 51, 109, 50, 115, 49, 119, 48, 97, 53, 115, 48, 97, 55, 109, 50, 115, 49, 119, 49, 107, 49, 52, 113, 97, 49, 97, 53, 115, 48, 97, 57, 109, 50, 115, 49, 119, 50, 108, 48, 122, 50, 54, 120, 49, 115, 48, 106, 49, 54, 104], [97, 109, 120, 115, 108, 112, 119, 106, 122, 107, 113, 104]]
/-- what is given of the machine's own things: classes, arrays of references, the two constant texts -/
def XF (K : XK) (U : State) : Prop := va_K K.2.1 vwCl (xtys K) U ∧ va_AO RX1 U ∧ va_AO RX6 U ∧ xAOA U ∧
  vk_S 2 [55, 12] xTxt K.2.2.2.2.1 K.2.2.2.2.2 (xA K) U U.heap ∧ va_Z "java/lang/String" "COMPACT_STRINGS" "Z" (.int 1) (xA K) U U.heap ∧
  vk_R RX8 64 "a5s0a3m2s1w0a5s0a7m2s1w1k14qa1a5s0a9m2s1w2l0z26x1s0j16h" (K.2.2.2.2.1 0) U ∧ vk_R RX7 44 "amxslpwjzkqh" (K.2.2.2.2.1 1) U ∧ vk_R RX8 277 "amxslpwjzkqh" (K.2.2.2.2.1 1) U
theorem XF.moved {K : XK} {s U : State} {H : Heap} {locs : List Loc} (hW : s.WarmedH U.vm) (hU : U.heap = H) (hS : va_S (xA K) s.heap H locs) (h : XF K s) : XF K U := by
  obtain ⟨h1, h2, h3, h4, h5, h6, h7, h8, h9⟩ := h
  refine ⟨h1.moved hW.alike, h2.moved hW.alike, h3.moved hW.alike, h4.moved hW.alike, ?_, ?_, h7.warm hW, h8.warm hW, h9.warm hW⟩
  · rw [hU]; exact (h5.moved hW.alike).kept hS.2.1
  · rw [hU]; exact (h6.moved hW.alike).kept hS.2.1
theorem XF.calling {K : XK} {U : State} {g : JFrame} {mk : MethodId} {a : Array Value} (h : XF K U) : XF K (U.calling g mk a) := by
  obtain ⟨h1, h2, h3, h4, h5, h6, h7, h8, h9⟩ := h
  exact ⟨va_K.moved (u := U) (U := U.calling g mk a) (Vm.Alike.refl U.vm) h1, va_AO.moved (u := U) (U := U.calling g mk a) (Vm.Alike.refl U.vm) h2, va_AO.moved (u := U) (U := U.calling g mk a) (Vm.Alike.refl U.vm) h3, xAOA.moved (u := U) (U := U.calling g mk a) (Vm.Alike.refl U.vm) h4, vk_S.moved (u := U) (U := U.calling g mk a) (Vm.Alike.refl U.vm) h5, va_Z.moved (u := U) (U := U.calling g mk a) (Vm.Alike.refl U.vm) h6, vk_R.same (u := U) (U := U.calling g mk a) rfl h7, vk_R.same (u := U) (U := U.calling g mk a) rfl h8, vk_R.same (u := U) (U := U.calling g mk a) rfl h9⟩
/-- a method's surroundings while it runs -/
def XE (K : XK) (M : XM) (p : Program) (s : State) (m : MethodId) (args : Array Value) (meth : Method) (c : Code) : Prop :=
  p.tables.exec = Jvm.exec ∧ c.code = M.1 ∧ c.maxLocals = M.2.2.1 ∧ meth.sig.returnType = M.2.2.2.1 ∧ meth.locks = false ∧ meth.name = M.2.1.name ∧ s.vm.findClass M.2.1.cls = some m.cls ∧ (∀ w ∈ xTb, w.before args s = true) ∧ XF K s ∧ K.2.2.1 ≤ s.heap.size
/-- room: for good (the references stand), frames, cells, slots -/
abbrev XR : Type := Bool × Nat × Nat × Nat
def xrm (R : XR) : Room := { frames := R.2.1, cells := R.2.2.1, slots := R.2.2.2, locals := 38 * R.2.1 }
def xQ (K : XK) (md : Bool) (Q : Option XV → Nat → XH → Prop) : Array Value → State → Outcome → State → Prop := fun _ st o t =>
  (∃ (v : Option XV) (n : Nat) (h : XH), o = .returned (v.map (xv K)) ∧ Q v n h ∧ t.heap.size = K.2.2.1 + n ∧ va_P K.2.1 vwCl (xw K n h) t.heap ∧ (md = true → xXS n h)) ∧ va_F (xA K) st t
def xL (K : XK) (L : List (Nat × XV)) : List (Nat × Value) := L.map fun q => (q.1, xv K q.2)
/-- u: cells in all, new ones, new slots -/
def WX (K : XK) (M : XM) (R : XR) (Q : Option XV → Nat → XH → Prop) (u : Nat × Nat × Nat) (pc : Nat) (L : List (Nat × XV)) (st : List XV) (h : XH) : Prop :=
  (R.1 = true → M.2.2.2.2 ≤ u.1 ∧ xXS u.1 h) → ∀ (p : Program) (e : Env) (s : State) (m : MethodId) (args : Array Value) (below : List Frame) (meth : Method) (c : Code), XE K M p s m args meth c → ∀ (H : Heap) (locs : List Loc) (ls : Array Slot), H.size = K.2.2.1 + u.1 → va_P K.2.1 vwCl (xw K u.1 h) H → va_S (xA K) s.heap H locs → lv_has ls M.2.2.1 (xL K L) →
    W p K.1 e (xrm R) s m args below meth c H locs u.2.1 u.2.2 (MQ below (xQ K R.1 Q) args s R.2.2.1 R.2.2.2 (xA K)) (F0 m pc ls (st.map (xv K)))
def xPc (K : XK) (M : XM) (md : Bool) (n : Nat) (as : List XV) (h : XH) : Array Value → State → Prop := va_Pc (as.map (xv K)) (fun U => U.heap.size = K.2.2.1 + n ∧ va_P K.2.1 vwCl (xw K n h) U.heap ∧ XF K U ∧ (md = true → M.2.2.2.2 ≤ n ∧ xXS n h))
def MX (K : XK) (M : XM) (R : XR) (n : Nat) (as : List XV) (h : XH) (Q : Option XV → Nat → XH → Prop) : Prop :=
  Met K.1 M.2.1 (Cond.code M.2.1 M.1 M.2.2.1 M.2.2.2.1 :: xTb) (xrm R) (xPc K M R.1 n as h) (xQ K R.1 Q) R.2.2.1 R.2.2.2 (xA K)
/-- what the tables say of a method: how many arguments -/
def xMF (M : XM) (n : Nat) : Prop := plainName M.2.1.cls = true ∧ Cond.code M.2.1 M.1 M.2.2.1 M.2.2.2.1 ∈ xTb ∧ Cond.initialized M.2.1.cls ∈ xTb ∧ M.2.1.cls ≠ "java/lang/invoke/MethodHandle" ∧ M.2.1.cls ≠ "java/lang/invoke/VarHandle" ∧ (parseMethodDescriptor M.2.1.desc).map (fun d => d.parameters.length) = some n ∧ M.2.2.1 ≤ 19
def xMV (M : XM) : Prop := Cond.instanceMethod M.2.1 ∈ xTb ∧ Cond.selects M.2.1.cls M.2.1 M.2.1 ∈ xTb
def xMS (M : XM) : Prop := Cond.static M.2.1 ∈ xTb
def xMI (M : XM) : Prop := Cond.instanceMethod M.2.1 ∈ xTb ∧ M.2.1.name = "<init>"
def xML (own : String) (idx : Nat) (y : MethodName) : Prop := Cond.methodLink own idx y ∈ xTb ∨ ∃ host, Cond.methodLinkNest own idx y host ∈ xTb
def xargs : Nat → List XV → List (Nat × XV)
  | _, [] => []
  | i, v :: vs => (i, v) :: xargs (i + (match v with | .inr (.inr _) => 2 | _ => 1)) vs
theorem xcat (K : XK) (v : XV) : (xv K v).category = (match v with | .inr (.inr _) => 2 | _ => 1) := by
  rcases v with z | k | z <;> rfl
theorem xargs_lv (K : XK) : ∀ (as : List XV) (i : Nat), lv_args i (as.map (xv K)) = xL K (xargs i as)
  | [], i => rfl
  | v :: vs, i => by
    have e := xargs_lv K vs
    rcases v with z | k | z
    · exact congrArg (fun l => (i, xv K (vi z)) :: l) (e (i + 1))
    · exact congrArg (fun l => (i, xv K (vr k)) :: l) (e (i + 1))
    · exact congrArg (fun l => (i, xv K (vl z)) :: l) (e (i + 2))
theorem xMeth {K : XK} {M : XM} {R : XR} {n a : Nat} {as : List XV} {h : XH} {Q : Option XV → Nat → XH → Prop} (hF : xMF M a) (hlen : (lg_sl (as.map (xv K))).length ≤ M.2.2.1) (hw : WX K M R Q (n, 0, 0) 0 (xargs 0 as) [] h) : MX K M R n as h Q := by
  refine Met.ofW (cc := M.1) (maxL := M.2.2.1) (ret := M.2.2.2.1) hF.1 rfl ?_
  intro p e s m args below meth c s₁ B hml hv
  obtain ⟨rfl, hsz, hP, hXF, hmd⟩ := hv
  have hts : ∀ w ∈ xTb, w.before (as.map (xv K)).toArray s = true := fun w hw => atoms_spec (ws := Cond.code M.2.1 M.1 M.2.2.1 M.2.2.2.1 :: xTb) B.pre w (List.mem_cons_of_mem _ hw)
  have hl := lv_entry (as.map (xv K)) (n := M.2.2.1) hlen
  rw [lg_entry_eq]
  rw [xargs_lv] at hl
  exact hw hmd p e s m _ below meth c ⟨B.exec, B.bytes, hml, B.returns, B.notSynchronized, (name_of_methodNamed B.named B.method).1, findClass_of_methodNamed B.named, hts, hXF, by rw [hsz]; exact Nat.le_add_right _ _⟩ s.heap [] _ hsz hP va_S.rf hl
end
section
/-! whole numbers, told to the machine modulo 2^32 -/
abbrev xrg (z : Int) : Prop := -2147483648 ≤ z ∧ z < 2147483648
theorem xI {z : Int} (h : xrg z) : (Int32.ofInt z).toInt = z := Int32.toInt_ofInt_of_le h.1 h.2
theorem xle {a b : Int} (ha : xrg a) (hb : xrg b) : Int32.ofInt a ≤ Int32.ofInt b ↔ a ≤ b := by rw [Int32.le_iff_toInt_le, xI ha, xI hb]
theorem xlt {a b : Int} (ha : xrg a) (hb : xrg b) : Int32.ofInt a < Int32.ofInt b ↔ a < b := by rw [Int32.lt_iff_toInt_lt, xI ha, xI hb]
theorem xeq {a b : Int} (ha : xrg a) (hb : xrg b) : Int32.ofInt a = Int32.ofInt b ↔ a = b := by rw [← Int32.toInt_inj, xI ha, xI hb]
theorem xrg0 : xrg 0 := by decide
theorem xz : (0 : Int32) = Int32.ofInt 0 := rfl
theorem xclamp {z : Int} (h : 0 ≤ z) (h2 : z < 2147483648) : (Int32.ofInt z).toNatClampNeg = z.toNat := by
  rw [← Int32.toNat_toInt, xI ⟨by omega, h2⟩]
theorem xin {z : Int} {n : Nat} (h : 0 ≤ z) (h2 : z < n) (hn : n < 2147483648) : vp_in (Int32.ofInt z) n := by
  rintro (q | q)
  · rw [xz, xlt ⟨by omega, by omega⟩ xrg0] at q
    omega
  · rw [xclamp h (by omega)] at q
    omega
theorem xbv (a : Int) : (Int32.ofInt a).toBitVec.toNat = (a % 4294967296).toNat := by
  show (BitVec.ofInt 32 a).toNat = _
  rw [BitVec.toNat_ofInt]
  rfl
theorem xnI (n : Nat) : nI n = Int32.ofInt n := by
  unfold nI
  rfl
theorem xand (a : Int) (k : Nat) (m : Int) (hm : (Int32.ofInt m).toBitVec.toNat = 2 ^ k - 1) (hk : k ≤ 30) : Int32.ofInt a &&& Int32.ofInt m = Int32.ofInt (a % (2 ^ k : Nat)) := by
  rw [pk_and _ k hm, xnI, xbv]
  congr 1
  have h2 : (4294967296 : Int) = ((2 ^ k : Nat) : Int) * ((2 ^ (32 - k) : Nat) : Int) := by
    rw [← Int.natCast_mul, ← Nat.pow_add, show k + (32 - k) = 32 by omega]
    rfl
  have h3 : 0 ≤ a % 4294967296 := Int.emod_nonneg _ (by decide)
  rw [Int.natCast_emod, Int.toNat_of_nonneg h3, h2, Int.emod_emod_of_dvd _ (Int.dvd_mul_right _ _)]
theorem xand65535 (a : Int) : Int32.ofInt a &&& Int32.ofInt 65535 = Int32.ofInt (a % 65536) := xand a 16 65535 (by decide) (by decide)
theorem xand15 (a : Int) : Int32.ofInt a &&& Int32.ofInt 15 = Int32.ofInt (a % 16) := xand a 4 15 (by decide) (by decide)
theorem xand31 (a : Int) : Int32.ofInt a &&& Int32.ofInt 31 = Int32.ofInt (a % 32) := xand a 5 31 (by decide) (by decide)
def xxor (a b : Int) : Int := (Int32.ofInt a ^^^ Int32.ofInt b).toInt
theorem xxor_of (a b : Int) : Int32.ofInt a ^^^ Int32.ofInt b = Int32.ofInt (xxor a b) := by unfold xxor; exact (Int32.ofInt_toInt _).symm
theorem xxor_rg {a b : Int} (ha : 0 ≤ a) (ha' : a < 65536) (hb : 0 ≤ b) (hb' : b < 65536) : 0 ≤ xxor a b ∧ xxor a b < 65536 := by
  have e : (Int32.ofInt a ^^^ Int32.ofInt b).toBitVec.toNat = (a % 4294967296).toNat ^^^ (b % 4294967296).toNat := by
    rw [Int32.toBitVec_xor, BitVec.toNat_xor, xbv, xbv]
  have h1 : (a % 4294967296).toNat < 2 ^ 16 := by omega
  have h2 : (b % 4294967296).toNat < 2 ^ 16 := by omega
  have h3 := Nat.xor_lt_two_pow h1 h2
  have h4 : xxor a b = ((a % 4294967296).toNat ^^^ (b % 4294967296).toNat : Nat) := by
    unfold xxor
    rw [← e]
    show (Int32.ofInt a ^^^ Int32.ofInt b).toBitVec.toInt = _
    rw [BitVec.toInt_eq_toNat_cond, if_pos (by rw [e]; omega)]
  omega
theorem xdiv {a b : Int} (ha : 0 ≤ a) (ha' : a < 2147483648) (hb : 0 < b) (hb' : b < 2147483648) : Int32.ofInt a / Int32.ofInt b = Int32.ofInt (a / b) := by
  obtain ⟨x, rfl⟩ := Int.eq_ofNat_of_zero_le ha
  obtain ⟨y, rfl⟩ := Int.eq_ofNat_of_zero_le (Int.le_of_lt hb)
  have := pk_div (a := x) (d := y) (by omega) (by omega) (by omega)
  rw [xnI, xnI, xnI] at this
  rw [this]
  rfl
theorem xrem {a b : Int} (ha : 0 ≤ a) (ha' : a < 2147483648) (hb : 0 < b) (hb' : b < 2147483648) : Int32.ofInt a - Int32.ofInt a / Int32.ofInt b * Int32.ofInt b = Int32.ofInt (a % b) := by
  obtain ⟨x, rfl⟩ := Int.eq_ofNat_of_zero_le ha
  obtain ⟨y, rfl⟩ := Int.eq_ofNat_of_zero_le (Int.le_of_lt hb)
  have := pk_rem (a := x) (d := y) (by omega) (by omega) (by omega)
  rw [xnI, xnI, xnI] at this
  rw [this]
  rfl
theorem xshc : ∀ k : Fin 32, ((Int32.ofInt k.val &&& 31).toBitVec.smod 32).toNat = k.val := by decide
theorem xshr {a : Int} (ha : xrg a) {k : Nat} (hk : k < 32) : Int32.ofInt a >>> (Int32.ofInt k &&& 31) = Int32.ofInt (a / (2 ^ k : Nat)) := by
  apply Int32.toInt_inj.mp
  rw [pk_shr _ _ k (xshc ⟨k, hk⟩), xI ha, Int.shiftRight_eq_div_pow, xI]
  have hp : (0 : Int) < ((2 ^ k : Nat) : Int) := by exact_mod_cast Nat.two_pow_pos k
  refine ⟨Int.le_trans ?_ (Int.le_of_eq rfl), ?_⟩
  · rw [Int.le_ediv_iff_mul_le hp]
    have h1 : (1 : Int) ≤ ((2 ^ k : Nat) : Int) := hp
    have h2 : (-2147483648 : Int) * ((2 ^ k : Nat) : Int) ≤ -2147483648 * 1 := Int.mul_le_mul_of_nonpos_left (by decide) h1
    exact Int.le_trans h2 (by have := ha.1; omega)
  · rw [Int.ediv_lt_iff_lt_mul hp]
    have h1 : (1 : Int) ≤ ((2 ^ k : Nat) : Int) := hp
    have h2 : (2147483648 : Int) * 1 ≤ 2147483648 * ((2 ^ k : Nat) : Int) := Int.mul_le_mul_of_nonneg_left h1 (by decide)
    exact Int.lt_of_lt_of_le ha.2 (by simpa using h2)
theorem xshl (a : Int) {k : Nat} (hk : k < 32) : Int32.ofInt a <<< (Int32.ofInt k &&& 31) = Int32.ofInt (a * (2 ^ k : Nat)) := by
  apply Int32.toBitVec_inj.mp
  apply BitVec.eq_of_toNat_eq
  rw [pk_shl _ _ k (xshc ⟨k, hk⟩), xbv, xbv]
  have hm : (2:Nat) ^ 32 = 4294967296 := by decide
  rw [hm]
  have e1 : 0 ≤ a % 4294967296 := Int.emod_nonneg _ (by decide)
  have e2 : 0 ≤ (a * (2 ^ k : Nat)) % 4294967296 := Int.emod_nonneg _ (by decide)
  apply Int.natCast_inj.mp
  rw [Int.natCast_emod, Int.natCast_mul, Int.toNat_of_nonneg e1, Int.toNat_of_nonneg e2]
  show a % 4294967296 * ((2 ^ k : Nat) : Int) % 4294967296 = _
  rw [Int.mul_emod, Int.emod_emod, ← Int.mul_emod]
theorem xlong {a : Int} (ha : xrg a) : (Int32.ofInt a).toInt64 = Int64.ofInt a := by
  rw [← Int64.ofInt_int32ToInt, xI ha]
abbrev xrl (z : Int) : Prop := -9223372036854775808 ≤ z ∧ z < 9223372036854775808
theorem xL64 {z : Int} (h : xrl z) : (Int64.ofInt z).toInt = z := Int64.toInt_ofInt_of_le h.1 h.2
theorem xlcmp {a b : Int} (ha : xrl a) (hb : xrl b) : lg_cmp (Int64.ofInt a) (Int64.ofInt b) = Int32.ofInt (if b < a then 1 else if a = b then 0 else -1) := by
  unfold lg_cmp
  have e1 : (Int64.ofInt a > Int64.ofInt b) ↔ b < a := by rw [gt_iff_lt, Int64.lt_iff_toInt_lt, xL64 ha, xL64 hb]
  have e2 : (Int64.ofInt a = Int64.ofInt b) ↔ a = b := by rw [← Int64.toInt_inj, xL64 ha, xL64 hb]
  by_cases h1 : b < a
  · rw [if_pos (e1.mpr h1), if_pos h1]; rfl
  · rw [if_neg (fun q => h1 (e1.mp q)), if_neg h1]
    by_cases h2 : a = b
    · rw [if_pos (e2.mpr h2), if_pos h2]; rfl
    · rw [if_neg (fun q => h2 (e2.mp q)), if_neg h2]; rfl
end
section
/-! rows of the small machine: the pure instructions -/
def xget : List (Nat × XV) → Nat → Option XV
  | [], _ => none
  | q :: L, k => cond (Nat.beq q.1 k) (some q.2) (xget L k)
def xdel (k : Nat) : List (Nat × XV) → List (Nat × XV)
  | [] => []
  | q :: L => cond (Nat.beq q.1 k) (xdel k L) (q :: xdel k L)
def xins (k : Nat) (v : XV) : List (Nat × XV) → List (Nat × XV)
  | [] => [(k, v)]
  | q :: L => cond (Nat.ble q.1 k) (q :: xins k v L) ((k, v) :: q :: L)
def xset (L : List (Nat × XV)) (k : Nat) (v : XV) : List (Nat × XV) := xins k v (xdel k L)
def xnl : List (Nat × XV) → Bool
  | [] => true
  | (_, .inr (.inr _)) :: _ => false
  | _ :: L => xnl L
theorem xget_mem : ∀ {L : List (Nat × XV)} {k : Nat} {v : XV}, xget L k = some v → (k, v) ∈ L
  | [], _, _, h => by cases h
  | q :: L, k, v, h => by
    unfold xget at h
    cases hb : Nat.beq q.1 k with
    | true =>
      rw [hb] at h
      have e1 : q.1 = k := Nat.eq_of_beq_eq_true hb
      have e2 : q.2 = v := Option.some.inj h
      rw [← e1, ← e2]
      exact List.mem_cons_self
    | false =>
      rw [hb] at h
      exact List.mem_cons_of_mem _ (xget_mem h)
theorem xdel_mem : ∀ {L : List (Nat × XV)} {k : Nat} {q : Nat × XV}, q ∈ xdel k L → q ∈ L ∧ q.1 ≠ k
  | [], _, _, h => by cases h
  | a :: L, k, q, h => by
    unfold xdel at h
    cases hb : Nat.beq a.1 k with
    | true =>
      rw [hb] at h
      have := xdel_mem (L := L) h
      exact ⟨List.mem_cons_of_mem _ this.1, this.2⟩
    | false =>
      rw [hb] at h
      rcases List.mem_cons.mp h with e | h
      · subst e
        exact ⟨List.mem_cons_self, Nat.ne_of_beq_eq_false hb⟩
      · have := xdel_mem (L := L) h
        exact ⟨List.mem_cons_of_mem _ this.1, this.2⟩
theorem xins_mem : ∀ {L : List (Nat × XV)} {k : Nat} {v : XV} {q : Nat × XV}, q ∈ xins k v L → q = (k, v) ∨ q ∈ L
  | [], _, _, _, h => Or.inl (List.mem_singleton.mp h)
  | a :: L, k, v, q, h => by
    unfold xins at h
    cases hb : Nat.ble a.1 k with
    | true =>
      rw [hb] at h
      rcases List.mem_cons.mp h with e | h
      · exact Or.inr (by rw [e]; exact List.mem_cons_self)
      · rcases xins_mem (L := L) h with e | h
        · exact Or.inl e
        · exact Or.inr (List.mem_cons_of_mem _ h)
    | false =>
      rw [hb] at h
      rcases List.mem_cons.mp h with e | h
      · exact Or.inl e
      · exact Or.inr h
theorem xnl_mem : ∀ {L : List (Nat × XV)}, xnl L = true → ∀ {q : Nat × XV}, q ∈ L → ∀ K : XK, ¬ (xv K q.2).category = 2
  | [], _, _, h, _ => by cases h
  | (i, .inl z) :: L, hn, q, h, K => by
    rcases List.mem_cons.mp h with e | h
    · subst e; intro q; cases q
    · exact xnl_mem (L := L) hn h K
  | (i, .inr (.inl z)) :: L, hn, q, h, K => by
    rcases List.mem_cons.mp h with e | h
    · subst e; intro q; cases q
    · exact xnl_mem (L := L) hn h K
  | (i, .inr (.inr z)) :: L, hn, q, h, K => by cases hn
theorem xL_mem {K : XK} {L : List (Nat × XV)} {q : Nat × XV} (h : q ∈ L) : (q.1, xv K q.2) ∈ xL K L := List.mem_map.mpr ⟨q, h, rfl⟩
theorem xlk {K : XK} {ls : Array Slot} {n : Nat} {L : List (Nat × XV)} {k : Nat} {v : XV} (hl : lv_has ls n (xL K L)) (hg : xget L k = some v) : ls[k]? = some (.val (xv K v)) := hl.2.2 _ (xL_mem (xget_mem hg))
/-- fewer locals, in any order -/
theorem xlsub {K : XK} {ls : Array Slot} {n : Nat} {L L' : List (Nat × XV)} (hl : lv_has ls n (xL K L)) (h : ∀ q ∈ L', q ∈ L) : lv_has ls n (xL K L') := by
  refine ⟨hl.1, hl.2.1, fun q hq => ?_⟩
  obtain ⟨q0, h0, rfl⟩ := List.mem_map.mp hq
  exact hl.2.2 _ (xL_mem (h q0 h0))
theorem xlset {K : XK} {ls : Array Slot} {n : Nat} {L : List (Nat × XV)} {k : Nat} {v : XV} (hn : xnl L = true)
    (hl : lv_has ls n ((k, xv K v) :: (xL K L).filter (fun q => !(q.1 == k) && !(q.1 + 1 == k && q.2.category == 2)))) : lv_has ls n (xL K (xset L k v)) := by
  refine ⟨hl.1, hl.2.1, fun q hq => ?_⟩
  obtain ⟨q0, h0, rfl⟩ := List.mem_map.mp hq
  rcases xins_mem h0 with e | h1
  · subst e
    exact hl.2.2 _ List.mem_cons_self
  · obtain ⟨h2, h3⟩ := xdel_mem h1
    refine hl.2.2 (q0.1, xv K q0.2) (List.mem_cons_of_mem _ (List.mem_filter.mpr ⟨xL_mem h2, ?_⟩))
    have h4 := xnl_mem hn h2 K
    simp [h3, h4]
section XRULES
variable {K : XK} {M : XM} {R : XR} {Q : Option XV → Nat → XH → Prop} {u : Nat × Nat × Nat} {pc : Nat} {L : List (Nat × XV)} {st : List XV} {h : XH}
theorem WX.locals {L' : List (Nat × XV)} (hs : ∀ q ∈ L', q ∈ L) (kk : WX K M R Q u pc L' st h) : WX K M R Q u pc L st h := by
  intro hmd p e s m args below meth c E H locs ls hH hP hS hl
  exact kk hmd p e s m args below meth c E H locs ls hH hP hS (xlsub hl hs)
theorem WX.heap {h' : XH} (hs : h' = h) (kk : WX K M R Q u pc L st h') : WX K M R Q u pc L st h := by subst hs; exact kk
theorem x_iload_n {k : Fin 4} {z : Int} (hd : decode M.1 pc = .ok (.iload_n k, 1)) (hg : xget L k.val = some (vi z)) (kk : WX K M R Q u (pc + 1) L (vi z :: st) h) : WX K M R Q u pc L (st) h := by
  intro hmd p e s m args below meth c E H locs ls hH hP hS hl
  exact lv_iload_n E.1 E.2.1 hd rfl (xlk hl hg) (kk hmd p e s m args below meth c E H locs ls hH hP hS hl)
theorem x_iload {k : Nat} {z : Int} (hd : decode M.1 pc = .ok (.iload k, 2)) (hg : xget L k = some (vi z)) (kk : WX K M R Q u (pc + 2) L (vi z :: st) h) : WX K M R Q u pc L (st) h := by
  intro hmd p e s m args below meth c E H locs ls hH hP hS hl
  exact lv_iload E.1 E.2.1 hd (xlk hl hg) (kk hmd p e s m args below meth c E H locs ls hH hP hS hl)
theorem x_aload_n {k : Fin 4} {z : Nat} (hd : decode M.1 pc = .ok (.aload_n k, 1)) (hg : xget L k.val = some (vr z)) (kk : WX K M R Q u (pc + 1) L (vr z :: st) h) : WX K M R Q u pc L (st) h := by
  intro hmd p e s m args below meth c E H locs ls hH hP hS hl
  exact lv_aload_n E.1 E.2.1 hd rfl (xlk hl hg) (kk hmd p e s m args below meth c E H locs ls hH hP hS hl)
theorem x_aload {k : Nat} {z : Nat} (hd : decode M.1 pc = .ok (.aload k, 2)) (hg : xget L k = some (vr z)) (kk : WX K M R Q u (pc + 2) L (vr z :: st) h) : WX K M R Q u pc L (st) h := by
  intro hmd p e s m args below meth c E H locs ls hH hP hS hl
  exact lv_aload E.1 E.2.1 hd (xlk hl hg) (kk hmd p e s m args below meth c E H locs ls hH hP hS hl)
theorem x_lload_n {k : Fin 4} {z : Int} (hd : decode M.1 pc = .ok (.lload_n k, 1)) (hg : xget L k.val = some (vl z)) (kk : WX K M R Q u (pc + 1) L (vl z :: st) h) : WX K M R Q u pc L (st) h := by
  intro hmd p e s m args below meth c E H locs ls hH hP hS hl
  exact lv_lload_n E.1 E.2.1 hd rfl (xlk hl hg) (kk hmd p e s m args below meth c E H locs ls hH hP hS hl)
theorem x_lload {k : Nat} {z : Int} (hd : decode M.1 pc = .ok (.lload k, 2)) (hg : xget L k = some (vl z)) (kk : WX K M R Q u (pc + 2) L (vl z :: st) h) : WX K M R Q u pc L (st) h := by
  intro hmd p e s m args below meth c E H locs ls hH hP hS hl
  exact lv_lload E.1 E.2.1 hd (xlk hl hg) (kk hmd p e s m args below meth c E H locs ls hH hP hS hl)
theorem x_iconst {z : Int} (hd : decode M.1 pc = .ok (.iconst z, 1)) (kk : WX K M R Q u (pc + 1) L (vi z :: st) h) : WX K M R Q u pc L (st) h := by
  intro hmd p e s m args below meth c E H locs ls hH hP hS hl
  exact lv_iconst E.1 E.2.1 hd rfl (kk hmd p e s m args below meth c E H locs ls hH hP hS hl)
theorem x_bipush {z : Int} (hd : decode M.1 pc = .ok (.bipush z, 2)) (hz : (Int8.ofInt z).toInt32 = Int32.ofInt z) (kk : WX K M R Q u (pc + 2) L (vi z :: st) h) : WX K M R Q u pc L (st) h := by
  intro hmd p e s m args below meth c E H locs ls hH hP hS hl
  exact lv_bipush E.1 E.2.1 hd hz (kk hmd p e s m args below meth c E H locs ls hH hP hS hl)
theorem x_sipush {z : Int} (hd : decode M.1 pc = .ok (.sipush z, 3)) (hz : (Int16.ofInt z).toInt32 = Int32.ofInt z) (kk : WX K M R Q u (pc + 3) L (vi z :: st) h) : WX K M R Q u pc L (st) h := by
  intro hmd p e s m args below meth c E H locs ls hH hP hS hl
  exact lv_sipush E.1 E.2.1 hd hz (kk hmd p e s m args below meth c E H locs ls hH hP hS hl)
theorem x_lconst {k : Fin 2} {z : Int} (hd : decode M.1 pc = .ok (.lconst k, 1)) (hz : Int64.ofNat (k : Nat) = Int64.ofInt z) (kk : WX K M R Q u (pc + 1) L (vl z :: st) h) : WX K M R Q u pc L (st) h := by
  intro hmd p e s m args below meth c E H locs ls hH hP hS hl
  exact lv_lconst E.1 E.2.1 hd hz (kk hmd p e s m args below meth c E H locs ls hH hP hS hl)
theorem x_ldc {z : Int} {i : Nat} (hd : decode M.1 pc = .ok (.ldc i, 2)) (hc : Cond.constant M.2.1.cls i (Int32.ofInt z) ∈ xTb) (kk : WX K M R Q u (pc + 2) L (vi z :: st) h) : WX K M R Q u pc L (st) h := by
  intro hmd p e s m args below meth c E H locs ls hH hP hS hl
  exact lv_ldc E.1 E.2.1 E.2.2.2.2.2.2.1 (E.2.2.2.2.2.2.2.1 _ hc) hd (kk hmd p e s m args below meth c E H locs ls hH hP hS hl)
theorem x_ldc2 {z : Int} {i : Nat} (hd : decode M.1 pc = .ok (.ldc2_w i, 3)) (hc : Cond.constantLong M.2.1.cls i (Int64.ofInt z) ∈ xTb) (kk : WX K M R Q u (pc + 3) L (vl z :: st) h) : WX K M R Q u pc L (st) h := by
  intro hmd p e s m args below meth c E H locs ls hH hP hS hl
  exact lv_ldc2 E.1 E.2.1 E.2.2.2.2.2.2.1 (E.2.2.2.2.2.2.2.1 _ hc) hd (kk hmd p e s m args below meth c E H locs ls hH hP hS hl)
theorem x_iadd {a b : Int} (hd : decode M.1 pc = .ok (.iadd, 1)) (kk : WX K M R Q u (pc + 1) L (vi (a + b) :: st) h) : WX K M R Q u pc L (vi b :: vi a :: st) h := by
  intro hmd p e s m args below meth c E H locs ls hH hP hS hl
  refine lv_iadd E.1 E.2.1 hd ?_
  have k2 := (kk hmd p e s m args below meth c E H locs ls hH hP hS hl)
  rw [List.map_cons, show xv K (vi (a + b)) = Value.int (Int32.ofInt (a + b)) from rfl, Int32.ofInt_add] at k2
  exact k2
theorem x_isub {a b : Int} (hd : decode M.1 pc = .ok (.isub, 1)) (kk : WX K M R Q u (pc + 1) L (vi (a - b) :: st) h) : WX K M R Q u pc L (vi b :: vi a :: st) h := by
  intro hmd p e s m args below meth c E H locs ls hH hP hS hl
  refine lv_isub E.1 E.2.1 hd ?_
  have k2 := (kk hmd p e s m args below meth c E H locs ls hH hP hS hl)
  rw [List.map_cons, show xv K (vi (a - b)) = Value.int (Int32.ofInt (a - b)) from rfl, Int32.ofInt_sub] at k2
  exact k2
theorem x_imul {a b : Int} (hd : decode M.1 pc = .ok (.imul, 1)) (kk : WX K M R Q u (pc + 1) L (vi (a * b) :: st) h) : WX K M R Q u pc L (vi b :: vi a :: st) h := by
  intro hmd p e s m args below meth c E H locs ls hH hP hS hl
  refine lv_imul E.1 E.2.1 hd ?_
  have k2 := (kk hmd p e s m args below meth c E H locs ls hH hP hS hl)
  rw [List.map_cons, show xv K (vi (a * b)) = Value.int (Int32.ofInt (a * b)) from rfl, Int32.ofInt_mul] at k2
  exact k2
theorem x_idiv {a b : Int} (ha : 0 ≤ a) (ha2 : a < 2147483648) (hb : 0 < b) (hb2 : b < 2147483648) (hd : decode M.1 pc = .ok (.idiv, 1)) (kk : WX K M R Q u (pc + 1) L (vi (a / b) :: st) h) : WX K M R Q u pc L (vi b :: vi a :: st) h := by
  intro hmd p e s m args below meth c E H locs ls hH hP hS hl
  have k2 := (kk hmd p e s m args below meth c E H locs ls hH hP hS hl)
  rw [List.map_cons, show xv K (vi (a / b)) = Value.int (Int32.ofInt (a / b)) from rfl, ← xdiv ha ha2 hb hb2] at k2
  exact lv_idiv E.1 E.2.1 hd (fun q => by rw [xz, xeq ⟨by omega, by omega⟩ xrg0] at q; omega) k2
theorem x_irem {a b : Int} (ha : 0 ≤ a) (ha2 : a < 2147483648) (hb : 0 < b) (hb2 : b < 2147483648) (hd : decode M.1 pc = .ok (.irem, 1)) (kk : WX K M R Q u (pc + 1) L (vi (a % b) :: st) h) : WX K M R Q u pc L (vi b :: vi a :: st) h := by
  intro hmd p e s m args below meth c E H locs ls hH hP hS hl
  have k2 := (kk hmd p e s m args below meth c E H locs ls hH hP hS hl)
  rw [List.map_cons, show xv K (vi (a % b)) = Value.int (Int32.ofInt (a % b)) from rfl, ← xrem ha ha2 hb hb2] at k2
  exact lv_irem E.1 E.2.1 hd (fun q => by rw [xz, xeq ⟨by omega, by omega⟩ xrg0] at q; omega) k2
theorem x_iand65535 {a : Int}  (hd : decode M.1 pc = .ok (.iand, 1)) (kk : WX K M R Q u (pc + 1) L (vi (a % 65536) :: st) h) : WX K M R Q u pc L (vi 65535 :: vi a :: st) h := by
  intro hmd p e s m args below meth c E H locs ls hH hP hS hl
  have k2 := (kk hmd p e s m args below meth c E H locs ls hH hP hS hl)
  rw [List.map_cons, show xv K (vi (a % 65536)) = Value.int (Int32.ofInt (a % 65536)) from rfl, ← xand65535 a] at k2
  exact lv_iand E.1 E.2.1 hd k2
theorem x_iand15 {a : Int}  (hd : decode M.1 pc = .ok (.iand, 1)) (kk : WX K M R Q u (pc + 1) L (vi (a % 16) :: st) h) : WX K M R Q u pc L (vi 15 :: vi a :: st) h := by
  intro hmd p e s m args below meth c E H locs ls hH hP hS hl
  have k2 := (kk hmd p e s m args below meth c E H locs ls hH hP hS hl)
  rw [List.map_cons, show xv K (vi (a % 16)) = Value.int (Int32.ofInt (a % 16)) from rfl, ← xand15 a] at k2
  exact lv_iand E.1 E.2.1 hd k2
theorem x_ixor {a b : Int}  (hd : decode M.1 pc = .ok (.ixor, 1)) (kk : WX K M R Q u (pc + 1) L (vi (xxor a b) :: st) h) : WX K M R Q u pc L (vi b :: vi a :: st) h := by
  intro hmd p e s m args below meth c E H locs ls hH hP hS hl
  have k2 := (kk hmd p e s m args below meth c E H locs ls hH hP hS hl)
  rw [List.map_cons, show xv K (vi (xxor a b)) = Value.int (Int32.ofInt (xxor a b)) from rfl, ← xxor_of a b] at k2
  exact lv_ixor E.1 E.2.1 hd k2
theorem x_ishr {a : Int} {k : Nat} (ha : xrg a) (hk : k < 32) (hd : decode M.1 pc = .ok (.ishr, 1)) (kk : WX K M R Q u (pc + 1) L (vi (a / (2 ^ k : Nat)) :: st) h) : WX K M R Q u pc L (vi (k : Int) :: vi a :: st) h := by
  intro hmd p e s m args below meth c E H locs ls hH hP hS hl
  have k2 := (kk hmd p e s m args below meth c E H locs ls hH hP hS hl)
  rw [List.map_cons, show xv K (vi (a / (2 ^ k : Nat))) = Value.int (Int32.ofInt (a / (2 ^ k : Nat))) from rfl, ← xshr ha hk] at k2
  exact lv_ishr E.1 E.2.1 hd k2
theorem x_ishl {a : Int} {k : Nat} (hk : k < 32) (hd : decode M.1 pc = .ok (.ishl, 1)) (kk : WX K M R Q u (pc + 1) L (vi (a * (2 ^ k : Nat)) :: st) h) : WX K M R Q u pc L (vi (k : Int) :: vi a :: st) h := by
  intro hmd p e s m args below meth c E H locs ls hH hP hS hl
  have k2 := (kk hmd p e s m args below meth c E H locs ls hH hP hS hl)
  rw [List.map_cons, show xv K (vi (a * (2 ^ k : Nat))) = Value.int (Int32.ofInt (a * (2 ^ k : Nat))) from rfl, ← xshl a hk] at k2
  exact lv_ishl E.1 E.2.1 hd k2
theorem x_lcmp {a b : Int} (ha : xrl a) (hb : xrl b) (hd : decode M.1 pc = .ok (.lcmp, 1)) (kk : WX K M R Q u (pc + 1) L (vi (if b < a then 1 else if a = b then 0 else -1) :: st) h) : WX K M R Q u pc L (vl b :: vl a :: st) h := by
  intro hmd p e s m args below meth c E H locs ls hH hP hS hl
  have k2 := (kk hmd p e s m args below meth c E H locs ls hH hP hS hl)
  rw [List.map_cons, show xv K (vi (if b < a then 1 else if a = b then 0 else -1)) = Value.int (Int32.ofInt (if b < a then 1 else if a = b then 0 else -1)) from rfl, ← xlcmp ha hb] at k2
  exact W.lcmp E.1 E.2.1 hd k2
theorem x_i2l {a : Int} (ha : xrg a) (hd : decode M.1 pc = .ok (.i2l, 1)) (kk : WX K M R Q u (pc + 1) L (vl a :: st) h) : WX K M R Q u pc L (vi a :: st) h := by
  intro hmd p e s m args below meth c E H locs ls hH hP hS hl
  exact lv_i2l E.1 E.2.1 hd (xlong ha) (kk hmd p e s m args below meth c E H locs ls hH hP hS hl)
theorem x_dupi {a : Int} (hd : decode M.1 pc = .ok (.dup, 1)) (kk : WX K M R Q u (pc + 1) L (vi a :: vi a :: st) h) : WX K M R Q u pc L (vi a :: st) h := by
  intro hmd p e s m args below meth c E H locs ls hH hP hS hl
  exact lv_dup E.1 E.2.1 hd rfl (kk hmd p e s m args below meth c E H locs ls hH hP hS hl)
theorem x_dupr {a : Nat} (hd : decode M.1 pc = .ok (.dup, 1)) (kk : WX K M R Q u (pc + 1) L (vr a :: vr a :: st) h) : WX K M R Q u pc L (vr a :: st) h := by
  intro hmd p e s m args below meth c E H locs ls hH hP hS hl
  exact lv_dup E.1 E.2.1 hd rfl (kk hmd p e s m args below meth c E H locs ls hH hP hS hl)
theorem x_dup2 {a : Int} {b : Nat} (hd : decode M.1 pc = .ok (.dup2, 1)) (kk : WX K M R Q u (pc + 1) L (vi a :: vr b :: vi a :: vr b :: st) h) : WX K M R Q u pc L (vi a :: vr b :: st) h := by
  intro hmd p e s m args below meth c E H locs ls hH hP hS hl
  exact lv_dup2_11 E.1 E.2.1 hd rfl rfl (kk hmd p e s m args below meth c E H locs ls hH hP hS hl)
theorem x_popi {a : Int} (hd : decode M.1 pc = .ok (.pop, 1)) (kk : WX K M R Q u (pc + 1) L (st) h) : WX K M R Q u pc L (vi a :: st) h := by
  intro hmd p e s m args below meth c E H locs ls hH hP hS hl
  exact lv_pop E.1 E.2.1 hd rfl (kk hmd p e s m args below meth c E H locs ls hH hP hS hl)
theorem x_goto {off : Int} (tgt : Nat) (hd : decode M.1 pc = .ok (.goto off, 3)) (ht : (pc : Int) + off = (tgt : Int)) (kk : WX K M R Q u tgt L (st) h) : WX K M R Q u pc L (st) h := by
  intro hmd p e s m args below meth c E H locs ls hH hP hS hl
  exact lv_goto E.1 E.2.1 hd ht (kk hmd p e s m args below meth c E H locs ls hH hP hS hl)
theorem x_istore_n {k : Fin 4} {z : Int} {L' : List (Nat × XV)} (hd : decode M.1 pc = .ok (.istore_n k, 1)) (hk : k.val < M.2.2.1) (hn : xnl L = true) (hL : xset L k.val (vi z) = L') (kk : WX K M R Q u (pc + 1) L' st h) : WX K M R Q u pc L (vi z :: st) h := by
  subst hL
  intro hmd p e s m args below meth c E H locs ls hH hP hS hl
  exact lv_istore_n E.1 E.2.1 hd rfl hl hk rfl (fun ls' hl' => kk hmd p e s m args below meth c E H locs ls' hH hP hS (xlset hn hl'))
theorem x_istore {k : Nat} {z : Int} {L' : List (Nat × XV)} (hd : decode M.1 pc = .ok (.istore k, 2)) (hk : k < M.2.2.1) (hn : xnl L = true) (hL : xset L k (vi z) = L') (kk : WX K M R Q u (pc + 2) L' st h) : WX K M R Q u pc L (vi z :: st) h := by
  subst hL
  intro hmd p e s m args below meth c E H locs ls hH hP hS hl
  exact lv_istore E.1 E.2.1 hd hl hk rfl (fun ls' hl' => kk hmd p e s m args below meth c E H locs ls' hH hP hS (xlset hn hl'))
theorem x_astore_n {k : Fin 4} {z : Nat} {L' : List (Nat × XV)} (hd : decode M.1 pc = .ok (.astore_n k, 1)) (hk : k.val < M.2.2.1) (hn : xnl L = true) (hL : xset L k.val (vr z) = L') (kk : WX K M R Q u (pc + 1) L' st h) : WX K M R Q u pc L (vr z :: st) h := by
  subst hL
  intro hmd p e s m args below meth c E H locs ls hH hP hS hl
  exact lv_astore_n E.1 E.2.1 hd rfl hl hk rfl (fun ls' hl' => kk hmd p e s m args below meth c E H locs ls' hH hP hS (xlset hn hl'))
theorem x_astore {k : Nat} {z : Nat} {L' : List (Nat × XV)} (hd : decode M.1 pc = .ok (.astore k, 2)) (hk : k < M.2.2.1) (hn : xnl L = true) (hL : xset L k (vr z) = L') (kk : WX K M R Q u (pc + 2) L' st h) : WX K M R Q u pc L (vr z :: st) h := by
  subst hL
  intro hmd p e s m args below meth c E H locs ls hH hP hS hl
  exact lv_astore E.1 E.2.1 hd hl hk rfl (fun ls' hl' => kk hmd p e s m args below meth c E H locs ls' hH hP hS (xlset hn hl'))
theorem x_iinc {k : Nat} {z d : Int} {L' : List (Nat × XV)} (hd : decode M.1 pc = .ok (.iinc k d, 3)) (hg : xget L k = some (vi z)) (hk : k < M.2.2.1) (hn : xnl L = true) (hL : xset L k (vi (z + d)) = L') (kk : WX K M R Q u (pc + 3) L' st h) : WX K M R Q u pc L st h := by
  subst hL
  intro hmd p e s m args below meth c E H locs ls hH hP hS hl
  obtain ⟨i, hi⟩ := List.getElem?_of_mem (xL_mem (K := K) (xget_mem hg))
  refine lv_iinc E.1 E.2.1 hd hl hi (v := Int32.ofInt (z + d)) (by rw [Int32.ofInt_add]) hk rfl (fun ls' hl' => ?_)
  exact kk hmd p e s m args below meth c E H locs ls' hH hP hS (xlset hn hl')
theorem x_icmp_eq {a b : Int} {off : Int} (tgt : Nat) (hd : decode M.1 pc = .ok (.if_icmp .eq off, 3)) (ht : (pc : Int) + off = (tgt : Int)) (ra : xrg a) (rb : xrg b) (kt : a = b → WX K M R Q u tgt L st h) (kf : a ≠ b → WX K M R Q u (pc + 3) L st h) : WX K M R Q u pc L (vi b :: vi a :: st) h := by
  intro hmd p e s m args below meth c E H locs ls hH hP hS hl
  exact lv_icmp_eq E.1 E.2.1 hd ht (fun q => kt ((xeq ra rb).mp q) hmd p e s m args below meth c E H locs ls hH hP hS hl) (fun q => kf (fun z => q ((xeq ra rb).mpr z)) hmd p e s m args below meth c E H locs ls hH hP hS hl)
theorem x_icmp_ne {a b : Int} {off : Int} (tgt : Nat) (hd : decode M.1 pc = .ok (.if_icmp .ne off, 3)) (ht : (pc : Int) + off = (tgt : Int)) (ra : xrg a) (rb : xrg b) (kt : a ≠ b → WX K M R Q u tgt L st h) (kf : a = b → WX K M R Q u (pc + 3) L st h) : WX K M R Q u pc L (vi b :: vi a :: st) h := by
  intro hmd p e s m args below meth c E H locs ls hH hP hS hl
  exact lv_icmp_ne E.1 E.2.1 hd ht (fun q => kt (fun z => q ((xeq ra rb).mpr z)) hmd p e s m args below meth c E H locs ls hH hP hS hl) (fun q => kf ((xeq ra rb).mp q) hmd p e s m args below meth c E H locs ls hH hP hS hl)
theorem x_icmp_lt {a b : Int} {off : Int} (tgt : Nat) (hd : decode M.1 pc = .ok (.if_icmp .lt off, 3)) (ht : (pc : Int) + off = (tgt : Int)) (ra : xrg a) (rb : xrg b) (kt : a < b → WX K M R Q u tgt L st h) (kf : b ≤ a → WX K M R Q u (pc + 3) L st h) : WX K M R Q u pc L (vi b :: vi a :: st) h := by
  intro hmd p e s m args below meth c E H locs ls hH hP hS hl
  exact lv_icmp_lt E.1 E.2.1 hd ht (fun q => kt ((xlt ra rb).mp q) hmd p e s m args below meth c E H locs ls hH hP hS hl) (fun q => kf (Int.not_lt.mp fun z => q ((xlt ra rb).mpr z)) hmd p e s m args below meth c E H locs ls hH hP hS hl)
theorem x_icmp_ge {a b : Int} {off : Int} (tgt : Nat) (hd : decode M.1 pc = .ok (.if_icmp .ge off, 3)) (ht : (pc : Int) + off = (tgt : Int)) (ra : xrg a) (rb : xrg b) (kt : b ≤ a → WX K M R Q u tgt L st h) (kf : a < b → WX K M R Q u (pc + 3) L st h) : WX K M R Q u pc L (vi b :: vi a :: st) h := by
  intro hmd p e s m args below meth c E H locs ls hH hP hS hl
  exact lv_icmp_ge E.1 E.2.1 hd ht (fun q => kt ((xle rb ra).mp q) hmd p e s m args below meth c E H locs ls hH hP hS hl) (fun q => kf (Int.not_le.mp fun z => q ((xle rb ra).mpr z)) hmd p e s m args below meth c E H locs ls hH hP hS hl)
theorem x_icmp_gt {a b : Int} {off : Int} (tgt : Nat) (hd : decode M.1 pc = .ok (.if_icmp .gt off, 3)) (ht : (pc : Int) + off = (tgt : Int)) (ra : xrg a) (rb : xrg b) (kt : b < a → WX K M R Q u tgt L st h) (kf : a ≤ b → WX K M R Q u (pc + 3) L st h) : WX K M R Q u pc L (vi b :: vi a :: st) h := by
  intro hmd p e s m args below meth c E H locs ls hH hP hS hl
  exact lv_icmp_gt E.1 E.2.1 hd ht (fun q => kt ((xlt rb ra).mp q) hmd p e s m args below meth c E H locs ls hH hP hS hl) (fun q => kf (Int.not_lt.mp fun z => q ((xlt rb ra).mpr z)) hmd p e s m args below meth c E H locs ls hH hP hS hl)
theorem x_icmp_le {a b : Int} {off : Int} (tgt : Nat) (hd : decode M.1 pc = .ok (.if_icmp .le off, 3)) (ht : (pc : Int) + off = (tgt : Int)) (ra : xrg a) (rb : xrg b) (kt : a ≤ b → WX K M R Q u tgt L st h) (kf : b < a → WX K M R Q u (pc + 3) L st h) : WX K M R Q u pc L (vi b :: vi a :: st) h := by
  intro hmd p e s m args below meth c E H locs ls hH hP hS hl
  exact lv_icmp_le E.1 E.2.1 hd ht (fun q => kt ((xle ra rb).mp q) hmd p e s m args below meth c E H locs ls hH hP hS hl) (fun q => kf (Int.not_le.mp fun z => q ((xle ra rb).mpr z)) hmd p e s m args below meth c E H locs ls hH hP hS hl)
theorem x_if_eq {a : Int} {off : Int} (tgt : Nat) (hd : decode M.1 pc = .ok (.ifCond .eq off, 3)) (ht : (pc : Int) + off = (tgt : Int)) (ra : xrg a) (kt : a = 0 → WX K M R Q u tgt L st h) (kf : a ≠ 0 → WX K M R Q u (pc + 3) L st h) : WX K M R Q u pc L (vi a :: st) h := by
  intro hmd p e s m args below meth c E H locs ls hH hP hS hl
  exact lv_if_eq E.1 E.2.1 hd ht (fun q => kt ((xeq ra xrg0).mp q) hmd p e s m args below meth c E H locs ls hH hP hS hl) (fun q => kf (fun z => q ((xeq ra xrg0).mpr z)) hmd p e s m args below meth c E H locs ls hH hP hS hl)
theorem x_if_ne {a : Int} {off : Int} (tgt : Nat) (hd : decode M.1 pc = .ok (.ifCond .ne off, 3)) (ht : (pc : Int) + off = (tgt : Int)) (ra : xrg a) (kt : a ≠ 0 → WX K M R Q u tgt L st h) (kf : a = 0 → WX K M R Q u (pc + 3) L st h) : WX K M R Q u pc L (vi a :: st) h := by
  intro hmd p e s m args below meth c E H locs ls hH hP hS hl
  exact lv_if_ne E.1 E.2.1 hd ht (fun q => kt (fun z => q ((xeq ra xrg0).mpr z)) hmd p e s m args below meth c E H locs ls hH hP hS hl) (fun q => kf ((xeq ra xrg0).mp q) hmd p e s m args below meth c E H locs ls hH hP hS hl)
theorem x_if_lt {a : Int} {off : Int} (tgt : Nat) (hd : decode M.1 pc = .ok (.ifCond .lt off, 3)) (ht : (pc : Int) + off = (tgt : Int)) (ra : xrg a) (kt : a < 0 → WX K M R Q u tgt L st h) (kf : 0 ≤ a → WX K M R Q u (pc + 3) L st h) : WX K M R Q u pc L (vi a :: st) h := by
  intro hmd p e s m args below meth c E H locs ls hH hP hS hl
  exact lv_if_lt E.1 E.2.1 hd ht (fun q => kt ((xlt ra xrg0).mp q) hmd p e s m args below meth c E H locs ls hH hP hS hl) (fun q => kf (Int.not_lt.mp fun z => q ((xlt ra xrg0).mpr z)) hmd p e s m args below meth c E H locs ls hH hP hS hl)
theorem x_if_ge {a : Int} {off : Int} (tgt : Nat) (hd : decode M.1 pc = .ok (.ifCond .ge off, 3)) (ht : (pc : Int) + off = (tgt : Int)) (ra : xrg a) (kt : 0 ≤ a → WX K M R Q u tgt L st h) (kf : a < 0 → WX K M R Q u (pc + 3) L st h) : WX K M R Q u pc L (vi a :: st) h := by
  intro hmd p e s m args below meth c E H locs ls hH hP hS hl
  exact lv_if_ge E.1 E.2.1 hd ht (fun q => kt ((xle xrg0 ra).mp q) hmd p e s m args below meth c E H locs ls hH hP hS hl) (fun q => kf (Int.not_le.mp fun z => q ((xle xrg0 ra).mpr z)) hmd p e s m args below meth c E H locs ls hH hP hS hl)
theorem x_if_gt {a : Int} {off : Int} (tgt : Nat) (hd : decode M.1 pc = .ok (.ifCond .gt off, 3)) (ht : (pc : Int) + off = (tgt : Int)) (ra : xrg a) (kt : 0 < a → WX K M R Q u tgt L st h) (kf : a ≤ 0 → WX K M R Q u (pc + 3) L st h) : WX K M R Q u pc L (vi a :: st) h := by
  intro hmd p e s m args below meth c E H locs ls hH hP hS hl
  exact lv_if_gt E.1 E.2.1 hd ht (fun q => kt ((xlt xrg0 ra).mp q) hmd p e s m args below meth c E H locs ls hH hP hS hl) (fun q => kf (Int.not_lt.mp fun z => q ((xlt xrg0 ra).mpr z)) hmd p e s m args below meth c E H locs ls hH hP hS hl)
theorem x_if_le {a : Int} {off : Int} (tgt : Nat) (hd : decode M.1 pc = .ok (.ifCond .le off, 3)) (ht : (pc : Int) + off = (tgt : Int)) (ra : xrg a) (kt : a ≤ 0 → WX K M R Q u tgt L st h) (kf : 0 < a → WX K M R Q u (pc + 3) L st h) : WX K M R Q u pc L (vi a :: st) h := by
  intro hmd p e s m args below meth c E H locs ls hH hP hS hl
  exact lv_if_le E.1 E.2.1 hd ht (fun q => kt ((xle ra xrg0).mp q) hmd p e s m args below meth c E H locs ls hH hP hS hl) (fun q => kf (Int.not_le.mp fun z => q ((xle ra xrg0).mpr z)) hmd p e s m args below meth c E H locs ls hH hP hS hl)
theorem x_tableIn {a : Int} {dflt lo hi : Int} {offs : Array Int} {len : Nat} {off : Int} (tgt : Nat) (hd : decode M.1 pc = .ok (.tableswitch dflt lo hi offs, len)) (ra : xrg a) (h1 : lo ≤ a) (h2 : a ≤ hi) (ho : offs[(a - lo).toNat]? = some off) (ht : (pc : Int) + off = (tgt : Int)) (kk : WX K M R Q u tgt L st h) : WX K M R Q u pc L (vi a :: st) h := by
  intro hmd p e s m args below meth c E H locs ls hH hP hS hl
  exact lv_tableIn E.1 E.2.1 hd (by rw [xI ra]; omega) (by rw [xI ra]; omega) (by rw [xI ra]; exact ho) ht (kk hmd p e s m args below meth c E H locs ls hH hP hS hl)
theorem x_tableOut {a : Int} {dflt lo hi : Int} {offs : Array Int} {len : Nat} (tgt : Nat) (hd : decode M.1 pc = .ok (.tableswitch dflt lo hi offs, len)) (ra : xrg a) (h1 : a < lo ∨ hi < a) (ht : (pc : Int) + dflt = (tgt : Int)) (kk : WX K M R Q u tgt L st h) : WX K M R Q u pc L (vi a :: st) h := by
  intro hmd p e s m args below meth c E H locs ls hH hP hS hl
  exact lv_tableOut E.1 E.2.1 hd (by rw [xI ra]; exact h1) ht (kk hmd p e s m args below meth c E H locs ls hH hP hS hl)
theorem x_lookup {a : Int} {dflt : Int} {ps : Array (Int × Int)} {len : Nat} {off : Int} (tgt : Nat) (hd : decode M.1 pc = .ok (.lookupswitch dflt ps, len)) (ra : xrg a) (hp : (ps.toList.zip (ps.toList.drop 1)).all (fun (a, next) => a.1 < next.1) = true) (ho : Op.lookupswitch.offset ps.toList dflt a = off) (ht : (pc : Int) + off = (tgt : Int)) (kk : WX K M R Q u tgt L st h) : WX K M R Q u pc L (vi a :: st) h := by
  intro hmd p e s m args below meth c E H locs ls hH hP hS hl
  exact lv_lookup E.1 E.2.1 hd hp (by rw [xI ra]; exact ho) ht (kk hmd p e s m args below meth c E H locs ls hH hP hS hl)
end XRULES
end
section
/-! writing a field, the heap as large as it was -/
section XPUT
variable {p : Program} {l : Launch} {e : Env} {Rm : Room} {s : State} {m : MethodId} {args : Array Value} {below : List Frame} {meth : Method} {c : Code} {H : Heap} {locs : List Loc} {cells slots : Nat} {Qs : State → Prop}
variable {cc : ByteArray} {pc : Nat} {ls : Array Slot} {rest : List Value} {D : va_G} {cl : List vw_C} {A : Nat → Prop} {tys : List (ClassId × FieldType)} {ws : va_W} {H0 : Heap}
theorem xputS {own C : String} {T : u_T} {N ci index : Nat} (hexec : p.tables.exec = Jvm.exec) (hb : c.code = cc) (hts : ∀ w ∈ xTb, w.before args s = true) (hin : ∀ w ∈ u_ws C T N, w ∈ xTb) (ty0 : Nat → FieldType) (hty : ∀ k, k < N → parseFieldDescriptor (T k).2.2.1 = some (ty0 k)) (hnm : ∀ a, a < N → ∀ b, b < N → a ≠ b → (T a).2.1 ≠ (T b).2.1) (hown : s.vm.findClass own = some m.cls) (hK : va_K D cl tys s) (hP : va_P D cl ws H) (hD : va_D A ws) (hS0 : va_S A H0 H locs) {c0 a : Nat} {fs : List Value} (he : ws[c0]? = some (a, .inr (ci, fs))) (hc : cl[ci]? = some (C, T, N)) {k : Nat} (hk : k < N) (hlink : (Cond.fieldLink own index C (T k).2.1 (T k).2.2.1).before args s = true) (hTk : (T k).1 = C) (hfin : (T k).2.2.2 = false) {v : Value} (hn : narrow (ty0 k) v = v) (hfit : fits (ty0 k) v = true) (hlen : k < fs.length) (hdg : decode cc pc = .ok (.putfield index, 3))
    (kk : ∀ (H1 : Heap) (locs1 : List Loc), H1.size = H.size → va_P D cl (ws.set c0 (a, .inr (ci, fs.set k v))) H1 → va_S A H0 H1 locs1 → W p l e Rm s m args below meth c H1 locs1 cells slots Qs (F0 m (pc + 3) ls rest)) : W p l e Rm s m args below meth c H locs cells slots Qs (F0 m pc ls (v :: .ref a :: rest)) := by
  have hap := va_apart (own := own) hts hin ty0 hty hnm hK hc
  obtain ⟨r, h1, cell, q1, q2, q3, q4⟩ := hP c0 _ he
  cases h1.symm.trans hc
  obtain ⟨hSl, hfc, kC, hkC, hkind⟩ := hK.1 ci _ hc
  obtain ⟨cf, kf, fi, f, hi, hsl⟩ := hSl k hk
  have hi2 : s.fieldFound? C (T k).2.1 (T k).2.2.1 = some (cf, kf, fi, f) := by
    have hi3 := hi
    rw [hTk] at hi3
    exact hi3
  have hlay := hts _ (hin _ (u_in_lay hk))
  unfold u_lay at hlay
  have hst := (u_facts hfc hkC (u_lays hts hin hk) hi).1
  rw [if_neg (by rw [hfin]; decide)] at hlay
  have h6 := u_store hfc hkC hkind hlay hi (hty k hk) hn hfit
  refine W.putK hexec hb (f := f) ⟨hown, hlink, ⟨_, _, _, hi2⟩, hst⟩ (by rw [q2]; exact h6) q1 q3 (by rw [hsl]; exact k2_hasslot (q4 k hk)) rfl rfl hdg fun H' e1 e2 e3 => ?_
  rw [hsl] at e1 ⊢
  exact kk H' _ e2 (hP.set hD he ⟨_, hc, t_OB.to (V := updV (vp_V fs) k v) ⟨_, e1, q2, q3, t_set q4 hap hk v⟩ (fun j _ => vp_updV_set hlen v j)⟩ e3) (hS0.put e2 e3 (hD.2 c0 _ he))
theorem xputN {own C host : String} {T : u_T} {N ci index : Nat} (hexec : p.tables.exec = Jvm.exec) (hb : c.code = cc) (hts : ∀ w ∈ xTb, w.before args s = true) (hin : ∀ w ∈ u_ws C T N, w ∈ xTb) (ty0 : Nat → FieldType) (hty : ∀ k, k < N → parseFieldDescriptor (T k).2.2.1 = some (ty0 k)) (hnm : ∀ a, a < N → ∀ b, b < N → a ≠ b → (T a).2.1 ≠ (T b).2.1) (hown : s.vm.findClass own = some m.cls) (hK : va_K D cl tys s) (hP : va_P D cl ws H) (hD : va_D A ws) (hS0 : va_S A H0 H locs) {c0 a : Nat} {fs : List Value} (he : ws[c0]? = some (a, .inr (ci, fs))) (hc : cl[ci]? = some (C, T, N)) {k : Nat} (hk : k < N) (hlink : (Cond.fieldLinkNest own index C (T k).2.1 (T k).2.2.1 host).before args s = true) (hTk : (T k).1 = C) (hfin : (T k).2.2.2 = false) {v : Value} (hn : narrow (ty0 k) v = v) (hfit : fits (ty0 k) v = true) (hlen : k < fs.length) (hdg : decode cc pc = .ok (.putfield index, 3))
    (kk : ∀ (H1 : Heap) (locs1 : List Loc), H1.size = H.size → va_P D cl (ws.set c0 (a, .inr (ci, fs.set k v))) H1 → va_S A H0 H1 locs1 → W p l e Rm s m args below meth c H1 locs1 cells slots Qs (F0 m (pc + 3) ls rest)) : W p l e Rm s m args below meth c H locs cells slots Qs (F0 m pc ls (v :: .ref a :: rest)) := by
  have hap := va_apart (own := own) hts hin ty0 hty hnm hK hc
  obtain ⟨r, h1, cell, q1, q2, q3, q4⟩ := hP c0 _ he
  cases h1.symm.trans hc
  obtain ⟨hSl, hfc, kC, hkC, hkind⟩ := hK.1 ci _ hc
  obtain ⟨cf, kf, fi, f, hi, hsl⟩ := hSl k hk
  have hi2 : s.fieldFound? C (T k).2.1 (T k).2.2.1 = some (cf, kf, fi, f) := by
    have hi3 := hi
    rw [hTk] at hi3
    exact hi3
  have hlay := hts _ (hin _ (u_in_lay hk))
  unfold u_lay at hlay
  have hst := (u_facts hfc hkC (u_lays hts hin hk) hi).1
  rw [if_neg (by rw [hfin]; decide)] at hlay
  have h6 := u_store hfc hkC hkind hlay hi (hty k hk) hn hfit
  refine va_WputK hexec hb (f := f) hown hlink hi2 hst (by rw [q2]; exact h6) q1 q3 (by rw [hsl]; exact k2_hasslot (q4 k hk)) rfl rfl hdg fun H' e1 e2 e3 => ?_
  rw [hsl] at e1 ⊢
  exact kk H' _ e2 (hP.set hD he ⟨_, hc, t_OB.to (V := updV (vp_V fs) k v) ⟨_, e1, q2, q3, t_set q4 hap hk v⟩ (fun j _ => vp_updV_set hlen v j)⟩ e3) (hS0.put e2 e3 (hD.2 c0 _ he))
theorem xputF {own C : String} {T : u_T} {N ci index : Nat} (hexec : p.tables.exec = Jvm.exec) (hb : c.code = cc) (hts : ∀ w ∈ xTb, w.before args s = true) (hin : ∀ w ∈ u_ws C T N, w ∈ xTb) (ty0 : Nat → FieldType) (hty : ∀ k, k < N → parseFieldDescriptor (T k).2.2.1 = some (ty0 k)) (hnm : ∀ a, a < N → ∀ b, b < N → a ≠ b → (T a).2.1 ≠ (T b).2.1) (hown : s.vm.findClass own = some m.cls) (hK : va_K D cl tys s) (hP : va_P D cl ws H) (hD : va_D A ws) (hS0 : va_S A H0 H locs) {c0 a : Nat} {fs : List Value} (he : ws[c0]? = some (a, .inr (ci, fs))) (hc : cl[ci]? = some (C, T, N)) {k : Nat} (hk : k < N) (hlink : (Cond.fieldLink own index C (T k).2.1 (T k).2.2.1).before args s = true) (hTk : (T k).1 = C) (hfin : (T k).2.2.2 = true) (hinit : meth.name = "<init>") (hdecl : C = own) {v : Value} (hn : narrow (ty0 k) v = v) (hfit : fits (ty0 k) v = true) (hlen : k < fs.length) (hdg : decode cc pc = .ok (.putfield index, 3))
    (kk : ∀ (H1 : Heap) (locs1 : List Loc), H1.size = H.size → va_P D cl (ws.set c0 (a, .inr (ci, fs.set k v))) H1 → va_S A H0 H1 locs1 → W p l e Rm s m args below meth c H1 locs1 cells slots Qs (F0 m (pc + 3) ls rest)) : W p l e Rm s m args below meth c H locs cells slots Qs (F0 m pc ls (v :: .ref a :: rest)) := by
  have hap := va_apart (own := own) hts hin ty0 hty hnm hK hc
  obtain ⟨r, h1, cell, q1, q2, q3, q4⟩ := hP c0 _ he
  cases h1.symm.trans hc
  obtain ⟨hSl, hfc, kC, hkC, hkind⟩ := hK.1 ci _ hc
  obtain ⟨cf, kf, fi, f, hi, hsl⟩ := hSl k hk
  have hi2 : s.fieldFound? C (T k).2.1 (T k).2.2.1 = some (cf, kf, fi, f) := by
    have hi3 := hi
    rw [hTk] at hi3
    exact hi3
  have hlay := hts _ (hin _ (u_in_lay hk))
  unfold u_lay at hlay
  have hst := (u_facts hfc hkC (u_lays hts hin hk) hi).1
  rw [if_pos hfin] at hlay
  have hcf : m.cls = cf := by
    obtain ⟨_, _, c', _, _, _, -, -, hf', -, -, -, hown2, -⟩ := Cond.laysFinal_spec hlay
    have e1 : c' = cf := by have := hi.symm.trans hf'; simp at this; exact this.1.symm
    rw [hTk, hdecl] at hown2
    rw [← e1]
    exact Option.some.inj (hown.symm.trans hown2)
  have h6 := u_fits hfc hkC hkind (Or.inr hlay) hi (hty k hk) hn hfit
  refine W.putFinK hexec hb hown hlink hi2 hst hcf hinit (by rw [q2]; exact h6) q1 q3 (by rw [hsl]; exact k2_hasslot (q4 k hk)) rfl rfl hdg fun H' e1 e2 e3 => ?_
  rw [hsl] at e1 ⊢
  exact kk H' _ e2 (hP.set hD he ⟨_, hc, t_OB.to (V := updV (vp_V fs) k v) ⟨_, e1, q2, q3, t_set q4 hap hk v⟩ (fun j _ => vp_updV_set hlen v j)⟩ e3) (hS0.put e2 e3 (hD.2 c0 _ he))
end XPUT
end
section
/-! rows of the small machine: cells -/
/-- what the names say of a class -/
def xCl (ci : Nat) : Prop := ∃ (C : String) (T : u_T) (N : Nat), vwCl[ci]? = some (C, T, N) ∧ ci < 10 ∧ (∀ w ∈ u_ws C T N, w ∈ xTb) ∧ (∀ a, a < N → ∀ b, b < N → a ≠ b → (T a).2.1 ≠ (T b).2.1) ∧ (∀ k, k < N → parseFieldDescriptor (T k).2.2.1 = some (xFT ci k))
/-- entry idx of own's file is field k of class ci -/
def xLF (own : String) (idx ci k : Nat) : Prop := ∃ (C : String) (T : u_T) (N : Nat), vwCl[ci]? = some (C, T, N) ∧ k < N ∧ (∀ w ∈ u_ws C T N, w ∈ xTb) ∧ (T k).1 = C ∧ (Cond.fieldLink own idx C (T k).2.1 (T k).2.2.1 ∈ xTb ∨ ∃ host, Cond.fieldLinkNest own idx C (T k).2.1 (T k).2.2.1 host ∈ xTb)
theorem xLF.inj {own : String} {idx ci k : Nat} (h : xLF own idx ci k) {C : String} {T : u_T} {N : Nat} (e : vwCl[ci]? = some (C, T, N)) : k < N ∧ (∀ w ∈ u_ws C T N, w ∈ xTb) ∧ (T k).1 = C ∧ (Cond.fieldLink own idx C (T k).2.1 (T k).2.2.1 ∈ xTb ∨ ∃ host, Cond.fieldLinkNest own idx C (T k).2.1 (T k).2.2.1 host ∈ xTb) := by
  obtain ⟨C', T', N', e', h'⟩ := h
  have := e.symm.trans e'
  cases this
  exact h'
theorem xe_obj (K : XK) {t : Nat × Nat} (row : Int → Int) (h : t.1 < 10) : xe K t row = .inr (t.1, (List.range t.2).map fun (k : Nat) => if xFS t.1 k = 2 then va_rf (xro K (row k)) else .int (Int32.ofInt (row k))) := by
  unfold xe
  rw [if_pos h]
theorem xe_arr (K : XK) (a N : Nat) (row : Int → Int) (h : ¬ a < 10) (h2 : a < 13) : xe K (a, N) row = .inl (K.2.2.2.1 (a - 10), N, .inl fun (j : Nat) => Int32.ofInt (row j)) := by
  unfold xe
  rw [if_neg h, if_pos h2]
theorem xe_ref (K : XK) (a N : Nat) (row : Int → Int) (h : ¬ a < 13) : xe K (a, N) row = .inl (K.2.2.2.1 (a - 10), N, .inr (.inr (.inr (.inr fun (j : Nat) => xro K (row j))))) := by
  unfold xe
  rw [if_neg (fun q => h (Nat.lt_of_lt_of_le q (by decide))), if_neg h]
section XHEAP
variable {K : XK} {M : XM} {R : XR} {Q : Option XV → Nat → XH → Prop} {u : Nat × Nat × Nat} {pc : Nat} {L : List (Nat × XV)} {st : List XV} {h : XH}
/-- the machine's side of a getfield -/
theorem x_getG {c0 k ci N i : Nat} {v : XV} (hd : decode M.1 pc = .ok (.getfield i, 3)) (hl : xLF M.2.1.cls i ci k) (hT : xTY c0 = (ci, N)) (hci : ci < 10) (hN : (vwCl[ci]?).map (fun q => q.2.2) = some N) (hc : c0 < u.1)
    (hv : (if xFS ci k = 2 then va_rf (xro K (h c0 k)) else .int (Int32.ofInt (h c0 k))) = xv K v) (had : xad K c0 = K.2.2.1 + c0)
    (kk : WX K M R Q u (pc + 3) L (v :: st) h) : WX K M R Q u pc L (vr c0 :: st) h := by
  intro hmd p e s m args below meth c E H locs ls hH hP hS hlv
  have k2 := kk hmd p e s m args below meth c E H locs ls hH hP hS hlv
  cases hq : vwCl[ci]? with
  | none => rw [hq] at hN; cases hN
  | some q =>
    obtain ⟨C, T, N'⟩ := q
    rw [hq] at hN
    cases hN
    obtain ⟨hk, hin, hTk, hlink⟩ := hl.inj hq
    have he : (xw K u.1 h)[c0]? = some (K.2.2.1 + c0, .inr (ci, (List.range N').map fun (k : Nat) => if xFS ci k = 2 then va_rf (xro K (h c0 k)) else .int (Int32.ofInt (h c0 k)))) := by
      rw [xw_get hc, hT, xe_obj K _ hci]
    have hv2 : ((List.range N').map fun (k : Nat) => if xFS ci k = 2 then va_rf (xro K (h c0 k)) else .int (Int32.ofInt (h c0 k)))[k]? = some (xv K v) := by
      rw [List.getElem?_map, List.getElem?_range hk, Option.map_some, hv]
    show W p K.1 e (xrm R) s m args below meth c H locs u.2.1 u.2.2 _ (F0 m pc ls (.ref (xad K c0) :: st.map (xv K)))
    rw [had]
    rcases hlink with hlink | ⟨host, hlink⟩
    · exact va_get (C := C) (T := T) (N := N') (ref := C) E.1 E.2.1 E.2.2.2.2.2.2.2.1 hin E.2.2.2.2.2.2.1 E.2.2.2.2.2.2.2.2.1.1 hP c0 he hq k hk (E.2.2.2.2.2.2.2.1 _ hlink) (by rw [hTk]; exact fun _ h9 => h9) hv2 hd k2
    · exact va_getN (C := C) (T := T) (N := N') (ref := C) E.1 E.2.1 E.2.2.2.2.2.2.2.1 hin E.2.2.2.2.2.2.1 E.2.2.2.2.2.2.2.2.1.1 hP c0 he hq k hk (E.2.2.2.2.2.2.2.1 _ hlink) (by rw [hTk]; exact fun _ h9 => h9) hv2 hd k2
theorem xad_lt {c0 : Nat} (h : c0 < 1000000) : xad K c0 = K.2.2.1 + c0 := by unfold xad; rw [if_pos h]
theorem xN_of {ci N : Nat} (h : [6, 4, 2, 16, 4, 17, 4, 4, 7, 31][ci]? = some N) : (vwCl[ci]?).map (fun q => q.2.2) = some N := by
  have : vwCl.map (fun q => q.2.2) = [6, 4, 2, 16, 4, 17, 4, 4, 7, 31] := rfl
  rw [← this, List.getElem?_map] at h
  exact h
/-- a number or truth value out of a field -/
theorem x_getf {c0 k ci N i : Nat} (hd : decode M.1 pc = .ok (.getfield i, 3)) (hl : xLF M.2.1.cls i ci k) (hT : xTY c0 = (ci, N)) (hs : xFS ci k = 0 ∨ xFS ci k = 1) (hN : ci < 10 ∧ [6, 4, 2, 16, 4, 17, 4, 4, 7, 31][ci]? = some N) (hc : c0 < u.1 ∧ c0 < 1000000)
    (kk : WX K M R Q u (pc + 3) L (vi (h c0 k) :: st) h) : WX K M R Q u pc L (vr c0 :: st) h :=
  x_getG hd hl hT hN.1 (xN_of hN.2) hc.1 (by rw [if_neg (by rcases hs with q | q <;> rw [q] <;> decide)]; rfl) (xad_lt hc.2) kk
/-- a reference out of a field, not yet for good -/
theorem x_getr0 {c0 k ci N i r : Nat} (hd : decode M.1 pc = .ok (.getfield i, 3)) (hl : xLF M.2.1.cls i ci k) (hT : xTY c0 = (ci, N)) (hs : xFS ci k = 2) (hN : ci < 10 ∧ [6, 4, 2, 16, 4, 17, 4, 4, 7, 31][ci]? = some N) (hc : c0 < u.1 ∧ c0 < 1000000) (hr : h c0 k = (r : Int) + 1) (hr2 : r < 1000000)
    (kk : WX K M R Q u (pc + 3) L (vr r :: st) h) : WX K M R Q u pc L (vr c0 :: st) h :=
  x_getG hd hl hT hN.1 (xN_of hN.2) hc.1 (by
    rw [if_pos hs, hr]
    unfold xro
    rw [if_neg (by omega), show ((r : Int) + 1).toNat - 1 = r by omega]
    show Value.ref _ = Value.ref (xad K r)
    rw [xad_lt hr2]) (xad_lt hc.2) kk
theorem WX.md (kk : (R.1 = true → M.2.2.2.2 ≤ u.1 ∧ xXS u.1 h) → WX K M R Q u pc L st h) : WX K M R Q u pc L st h := fun hmd => kk hmd hmd
/-- a reference out of a field, for good -/
theorem x_getr {c0 k ci N i r : Nat} (hd : decode M.1 pc = .ok (.getfield i, 3)) (hl : xLF M.2.1.cls i ci k) (hT : xTY c0 = (ci, N)) (hs : xFS ci k = 2) (hN : ci < 10 ∧ [6, 4, 2, 16, 4, 17, 4, 4, 7, 31][ci]? = some N) (hc : c0 < M.2.2.2.2 ∧ c0 < 1000000) (hr : xRF c0 k = r + 1) (hr2 : r < 1000000) (hmd : R.1 = true)
    (kk : WX K M R Q u (pc + 3) L (vr r :: st) h) : WX K M R Q u pc L (vr c0 :: st) h := by
  refine WX.md fun md => ?_
  obtain ⟨h1, h2⟩ := md hmd
  have hlt : c0 < u.1 := Nat.lt_of_lt_of_le hc.1 h1
  exact x_getr0 hd hl hT hs hN ⟨hlt, hc.2⟩ (by rw [h2 c0 k hlt (by rw [hr]; omega), hr]; rfl) hr2 kk
/-- the machine's side of a putfield that isn't final -/
theorem x_putf {c0 k ci N i : Nat} {z : Int} (hd : decode M.1 pc = .ok (.putfield i, 3)) (hl : xLF M.2.1.cls i ci k) (hcl : xCl ci) (hT : xTY c0 = (ci, N)) (hs : xFS ci k = 0 ∨ (xFS ci k = 1 ∧ (z = 0 ∨ z = 1))) (hN : ci < 10 ∧ [6, 4, 2, 16, 4, 17, 4, 4, 7, 31][ci]? = some N) (hfin : (vwCl[ci]?).map (fun q => (q.2.1 k).2.2.2) = some false) (hc : c0 < u.1 ∧ c0 < 1000000) (hRF : xRF c0 k = 0)
    (kk : WX K M R Q u (pc + 3) L st (hset h c0 k z)) : WX K M R Q u pc L (vi z :: vr c0 :: st) h := by
  intro hmd p e s m args below meth c E H locs ls hH hP hS hlv
  have hmd2 : R.1 = true → M.2.2.2.2 ≤ u.1 ∧ xXS u.1 (hset h c0 k z) := fun q => ⟨(hmd q).1, fun c' k' h1 h2 => by
    unfold hset
    rw [if_neg (fun q2 => by obtain ⟨a, b⟩ := q2; subst a; rw [Int.natCast_inj] at b; subst b; exact h2 hRF)]
    exact (hmd q).2 c' k' h1 h2⟩
  have k2 := fun H locs hH hP hS => kk hmd2 p e s m args below meth c E H locs ls hH hP hS hlv
  obtain ⟨C, T, N', hq, -, hin, hnm, hty⟩ := hcl
  obtain ⟨hk, -, hTk, hlink⟩ := hl.inj hq
  have hN2 := xN_of hN.2
  rw [hq] at hN2 hfin
  have hN3 : N' = N := Option.some.inj hN2
  have hfin2 : (T k).2.2.2 = false := Option.some.inj hfin
  subst hN3
  have he : (xw K u.1 h)[c0]? = some (K.2.2.1 + c0, .inr (ci, (List.range N').map fun (k : Nat) => if xFS ci k = 2 then va_rf (xro K (h c0 k)) else .int (Int32.ofInt (h c0 k)))) := by
    rw [xw_get hc.1, hT, xe_obj K _ hN.1]
  have hset' : (xw K u.1 h).set c0 (K.2.2.1 + c0, .inr (ci, ((List.range N').map fun (k : Nat) => if xFS ci k = 2 then va_rf (xro K (h c0 k)) else .int (Int32.ofInt (h c0 k))).set k (.int (Int32.ofInt z)))) = xw K u.1 (hset h c0 k z) := by
    refine xw_set hc.1 ?_
    rw [hT, xe_obj K _ hN.1]
    congr 2
    apply List.ext_getElem?
    intro j
    by_cases hj : j < N'
    · rw [List.getElem?_map, List.getElem?_range hj, Option.map_some]
      by_cases ejk : j = k
      · subst ejk
        rw [List.getElem?_set_self (by rw [List.length_map, List.length_range]; exact hj)]
        have e1 : hset h c0 (j : Int) z c0 j = z := by unfold hset; rw [if_pos ⟨rfl, rfl⟩]
        rw [e1, if_neg (by rcases hs with q | q; rw [q]; decide; rw [q.1]; decide)]
      · rw [List.getElem?_set_ne (Ne.symm ejk), List.getElem?_map, List.getElem?_range hj, Option.map_some]
        have e1 : hset h c0 (k : Int) z c0 j = h c0 j := by unfold hset; rw [if_neg (fun q => ejk (Int.natCast_inj.mp q.2))]
        rw [e1]
    · rw [List.getElem?_eq_none (by rw [List.length_set, List.length_map, List.length_range]; omega), List.getElem?_eq_none (by rw [List.length_map, List.length_range]; omega)]
  have hft : (xFT ci k = .int ∧ xFS ci k = 0) ∨ (xFT ci k = .boolean ∧ (z = 0 ∨ z = 1)) := by
    unfold xFS at hs ⊢
    cases ht : xFT ci k <;> rw [ht] at hs <;> simp [xsort] at hs ⊢
    exact hs
  have hna : narrow (xFT ci k) (.int (Int32.ofInt z)) = .int (Int32.ofInt z) := by
    rcases hft with ⟨q, -⟩ | ⟨q, q2⟩
    · rw [q]; rfl
    · rw [q]; rcases q2 with q2 | q2 <;> subst q2 <;> rfl
  have hfi : fits (xFT ci k) (.int (Int32.ofInt z)) = true := by
    rcases hft with ⟨q, -⟩ | ⟨q, q2⟩
    · rw [q]; rfl
    · rw [q]; rcases q2 with q2 | q2 <;> subst q2 <;> rfl
  show W p K.1 e (xrm R) s m args below meth c H locs u.2.1 u.2.2 _ (F0 m pc ls (.int (Int32.ofInt z) :: .ref (xad K c0) :: st.map (xv K)))
  rw [xad_lt hc.2]
  rcases hlink with hlink | ⟨host, hlink⟩
  · refine xputS (C := C) (T := T) (N := N') E.1 E.2.1 E.2.2.2.2.2.2.2.1 hin (xFT ci) hty hnm E.2.2.2.2.2.2.1 E.2.2.2.2.2.2.2.2.1.1 hP xw_D hS he hq hk (E.2.2.2.2.2.2.2.1 _ hlink) hTk hfin2 hna hfi (by rw [List.length_map, List.length_range]; exact hk) hd (fun H1 locs1 hz1 hP1 hS1 => ?_)
    rw [hset'] at hP1
    exact k2 H1 locs1 (hz1.trans hH) hP1 hS1
  · refine xputN (C := C) (T := T) (N := N') E.1 E.2.1 E.2.2.2.2.2.2.2.1 hin (xFT ci) hty hnm E.2.2.2.2.2.2.1 E.2.2.2.2.2.2.2.2.1.1 hP xw_D hS he hq hk (E.2.2.2.2.2.2.2.1 _ hlink) hTk hfin2 hna hfi (by rw [List.length_map, List.length_range]; exact hk) hd (fun H1 locs1 hz1 hP1 hS1 => ?_)
    rw [hset'] at hP1
    exact k2 H1 locs1 (hz1.trans hH) hP1 hS1
end XHEAP
end
section
/-! rows of the small machine: fields by their links, arrays, ends -/
def xNs : List Nat := [6, 4, 2, 16, 4, 17, 4, 4, 7, 31]
def xLi (own : String) (idx ci k N : Nat) : Prop := xLF own idx ci k ∧ xFS ci k = 0 ∧ (ci < 10 ∧ xNs[ci]? = some N) ∧ (vwCl[ci]?).map (fun q => (q.2.1 k).2.2.2) = some false ∧ xCl ci
def xLz (own : String) (idx ci k N : Nat) : Prop := xLF own idx ci k ∧ xFS ci k = 1 ∧ (ci < 10 ∧ xNs[ci]? = some N) ∧ (vwCl[ci]?).map (fun q => (q.2.1 k).2.2.2) = some false ∧ xCl ci
def xLr (own : String) (idx ci k N : Nat) : Prop := xLF own idx ci k ∧ xFS ci k = 2 ∧ (ci < 10 ∧ xNs[ci]? = some N) ∧ (vwCl[ci]?).map (fun q => (q.2.1 k).2.2.2) = some true ∧ xCl ci
theorem xRF_arr {c N a : Nat} (h : xTY c = (a, N)) (ha : a = 10 ∨ a = 11 ∨ a = 12) (j : Nat) : xRF c j = 0 := by
  have h1 : (xTY c).1 = a := by rw [h]
  unfold xRF
  by_cases c8 : c < 8
  · rw [if_pos c8]
    have : c = 0 ∨ c = 1 ∨ c = 2 ∨ c = 3 ∨ c = 4 ∨ c = 5 ∨ c = 6 ∨ c = 7 := by omega
    rcases this with e | e | e | e | e | e | e | e <;> subst e <;> first | rfl | (exfalso; revert h1; show ¬ (_ = a); rcases ha with q | q | q <;> subst q <;> decide)
  · rw [if_neg c8]
    by_cases c2 : c < 192
    · rw [if_pos c2, h1]
      rcases ha with q | q | q <;> subst q <;> rfl
    · rw [if_neg c2]
      have key : ∀ x, (xTY x).1 ≠ 10 → (xTY x).1 ≠ 11 → (xTY x).1 ≠ 12 → c = x → False := fun x h10 h11 h12 e => by
        subst e
        rcases ha with q | q | q <;> subst q
        · exact h10 h1
        · exact h11 h1
        · exact h12 h1
      rw [if_neg (fun q => key 192 (by decide) (by decide) (by decide) q), if_neg (fun q => key 194 (by decide) (by decide) (by decide) q)]
      by_cases c3 : c < 246
      · rw [if_pos c3]
      · rw [if_neg c3, if_neg (fun q => key 246 (by decide) (by decide) (by decide) q), if_neg (fun q => key 254 (by decide) (by decide) (by decide) q), if_neg (fun q => key 255 (by decide) (by decide) (by decide) q), if_neg (fun q => key 259 (by decide) (by decide) (by decide) q)]
theorem xXS.arr {n : Nat} {h : XH} {c N a : Nat} {i z : Int} (hs : xXS n h) (hT : xTY c = (a, N)) (ha : a = 10 ∨ a = 11 ∨ a = 12) : xXS n (hset h c i z) := by
  intro c' k' h1 h2
  unfold hset
  rw [if_neg (fun q => by obtain ⟨e, -⟩ := q; subst e; exact h2 (xRF_arr hT ha k'))]
  exact hs c' k' h1 h2
section XCELL
variable {K : XK} {M : XM} {R : XR} {Q : Option XV → Nat → XH → Prop} {u : Nat × Nat × Nat} {pc : Nat} {L : List (Nat × XV)} {st : List XV} {h : XH}
def xC (R : XR) (M : XM) (u : Nat × Nat × Nat) (c0 : Nat) : Prop := (c0 < u.1 ∨ (R.1 = true ∧ c0 < M.2.2.2.2)) ∧ c0 < 1000000
theorem WX.lt {c0 : Nat} (hc : xC R M u c0) (kk : c0 < u.1 ∧ c0 < 1000000 → WX K M R Q u pc L st h) : WX K M R Q u pc L st h := by
  refine WX.md fun md => kk ⟨?_, hc.2⟩
  rcases hc.1 with q | ⟨q1, q2⟩
  · exact q
  · exact Nat.lt_of_lt_of_le q2 (md q1).1
theorem x_gi {c0 k ci N i : Nat} (hl : xLi M.2.1.cls i ci k N) (hd : decode M.1 pc = .ok (.getfield i, 3)) (hT : xTY c0 = (ci, N)) (hc : xC R M u c0)
    (kk : WX K M R Q u (pc + 3) L (vi (h c0 k) :: st) h) : WX K M R Q u pc L (vr c0 :: st) h :=
  WX.lt hc fun hc => x_getf hd hl.1 hT (Or.inl hl.2.1) hl.2.2.1 hc kk
theorem x_gz {c0 k ci N i : Nat} (hl : xLz M.2.1.cls i ci k N) (hd : decode M.1 pc = .ok (.getfield i, 3)) (hT : xTY c0 = (ci, N)) (hc : xC R M u c0)
    (kk : WX K M R Q u (pc + 3) L (vi (h c0 k) :: st) h) : WX K M R Q u pc L (vr c0 :: st) h :=
  WX.lt hc fun hc => x_getf hd hl.1 hT (Or.inr hl.2.1) hl.2.2.1 hc kk
theorem x_gr {c0 k ci N i : Nat} (r : Nat) (hl : xLr M.2.1.cls i ci k N) (hd : decode M.1 pc = .ok (.getfield i, 3)) (hT : xTY c0 = (ci, N)) (hr : xRF c0 k = r + 1) (hc : c0 < M.2.2.2.2 ∧ c0 < 1000000) (hr2 : r < 1000000) (hmd : R.1 = true)
    (kk : WX K M R Q u (pc + 3) L (vr r :: st) h) : WX K M R Q u pc L (vr c0 :: st) h :=
  x_getr hd hl.1 hT hl.2.1 hl.2.2.1 hc hr hr2 hmd kk
theorem x_gr0 {c0 k ci N i : Nat} (r : Nat) (hl : xLr M.2.1.cls i ci k N) (hd : decode M.1 pc = .ok (.getfield i, 3)) (hT : xTY c0 = (ci, N)) (hr : h c0 k = (r : Int) + 1) (hc : c0 < u.1 ∧ c0 < 1000000) (hr2 : r < 1000000)
    (kk : WX K M R Q u (pc + 3) L (vr r :: st) h) : WX K M R Q u pc L (vr c0 :: st) h :=
  x_getr0 hd hl.1 hT hl.2.1 hl.2.2.1 hc hr hr2 kk
theorem x_pi {c0 k ci N i : Nat} {z : Int} (hl : xLi M.2.1.cls i ci k N) (hd : decode M.1 pc = .ok (.putfield i, 3)) (hT : xTY c0 = (ci, N)) (hRF : xRF c0 k = 0) (hc : xC R M u c0)
    (kk : WX K M R Q u (pc + 3) L st (hset h c0 k z)) : WX K M R Q u pc L (vi z :: vr c0 :: st) h :=
  WX.lt hc fun hc => x_putf hd hl.1 hl.2.2.2.2 hT (Or.inl hl.2.1) hl.2.2.1 hl.2.2.2.1 hc hRF kk
theorem x_pz {c0 k ci N i : Nat} {z : Int} (hl : xLz M.2.1.cls i ci k N) (hd : decode M.1 pc = .ok (.putfield i, 3)) (hT : xTY c0 = (ci, N)) (hRF : xRF c0 k = 0) (hc : xC R M u c0) (hz : z = 0 ∨ z = 1)
    (kk : WX K M R Q u (pc + 3) L st (hset h c0 k z)) : WX K M R Q u pc L (vi z :: vr c0 :: st) h :=
  WX.lt hc fun hc => x_putf hd hl.1 hl.2.2.2.2 hT (Or.inr ⟨hl.2.1, hz⟩) hl.2.2.1 hl.2.2.2.1 hc hRF kk
theorem xtys_at (K : XK) (j : Nat) (ty : FieldType) (h : [FieldType.char, .int, .boolean, .object RX1, .object RX6, .array .int][j]? = some ty) : (xtys K)[j]? = some (K.2.2.2.1 j, ty) := by
  have hj : j < 6 := (List.getElem?_eq_some_iff.mp h).1
  have : j = 0 ∨ j = 1 ∨ j = 2 ∨ j = 3 ∨ j = 4 ∨ j = 5 := by omega
  rcases this with e | e | e | e | e | e <;> subst e <;> cases h <;> rfl
theorem x_iaload {c0 N : Nat} {i : Int} (hd : decode M.1 pc = .ok (.iaload, 1)) (hT : xTY c0 = (11, N)) (hc : xC R M u c0) (hN : N < 2147483648) (h0 : 0 ≤ i) (h1 : i < N)
    (kk : WX K M R Q u (pc + 1) L (vi (h c0 i) :: st) h) : WX K M R Q u pc L (vi i :: vr c0 :: st) h := by
  refine WX.lt hc fun hc => ?_
  intro hmd p e s m args below meth c E H locs ls hH hP hS hlv
  have k2 := kk hmd p e s m args below meth c E H locs ls hH hP hS hlv
  have he : (xw K u.1 h)[c0]? = some (K.2.2.1 + c0, .inl (K.2.2.2.1 1, N, .inl fun (j : Nat) => Int32.ofInt (h c0 j))) := by
    rw [xw_get hc.1, hT, xe_arr K 11 N _ (by decide) (by decide)] <;> rfl
  show W p K.1 e (xrm R) s m args below meth c H locs u.2.1 u.2.2 _ (F0 m pc ls (.int (Int32.ofInt i) :: .ref (xad K c0) :: st.map (xv K)))
  rw [xad_lt hc.2]
  refine va_iald E.1 E.2.1 E.2.2.2.2.2.2.2.2.1.1 hP c0 1 he (xtys_at K 1 _ rfl) (xin h0 h1 hN) hd ?_
  have e1 : ((Int32.ofInt i).toNatClampNeg : Int) = i := by rw [xclamp h0 (by omega)]; omega
  show W p K.1 e (xrm R) s m args below meth c H locs u.2.1 u.2.2 _ (F0 m (pc + 1) ls (.int (Int32.ofInt (h c0 ((Int32.ofInt i).toNatClampNeg : Int))) :: st.map (xv K)))
  rw [e1]
  exact k2
theorem x_baload {c0 N : Nat} {i : Int} (hd : decode M.1 pc = .ok (.baload, 1)) (hT : xTY c0 = (12, N)) (hc : xC R M u c0) (hN : N < 2147483648) (h0 : 0 ≤ i) (h1 : i < N)
    (kk : WX K M R Q u (pc + 1) L (vi (h c0 i) :: st) h) : WX K M R Q u pc L (vi i :: vr c0 :: st) h := by
  refine WX.lt hc fun hc => ?_
  intro hmd p e s m args below meth c E H locs ls hH hP hS hlv
  have k2 := kk hmd p e s m args below meth c E H locs ls hH hP hS hlv
  have he : (xw K u.1 h)[c0]? = some (K.2.2.1 + c0, .inl (K.2.2.2.1 2, N, .inl fun (j : Nat) => Int32.ofInt (h c0 j))) := by
    rw [xw_get hc.1, hT, xe_arr K 12 N _ (by decide) (by decide)] <;> rfl
  show W p K.1 e (xrm R) s m args below meth c H locs u.2.1 u.2.2 _ (F0 m pc ls (.int (Int32.ofInt i) :: .ref (xad K c0) :: st.map (xv K)))
  rw [xad_lt hc.2]
  refine va_zald E.1 E.2.1 E.2.2.2.2.2.2.2.2.1.1 hP c0 2 he (xtys_at K 2 _ rfl) (xin h0 h1 hN) hd ?_
  have e1 : ((Int32.ofInt i).toNatClampNeg : Int) = i := by rw [xclamp h0 (by omega)]; omega
  show W p K.1 e (xrm R) s m args below meth c H locs u.2.1 u.2.2 _ (F0 m (pc + 1) ls (.int (Int32.ofInt (h c0 ((Int32.ofInt i).toNatClampNeg : Int))) :: st.map (xv K)))
  rw [e1]
  exact k2
theorem x_caload {c0 N : Nat} {i : Int} (hd : decode M.1 pc = .ok (.caload, 1)) (hT : xTY c0 = (10, N)) (hc : xC R M u c0) (hN : N < 2147483648) (h0 : 0 ≤ i) (h1 : i < N)
    (kk : WX K M R Q u (pc + 1) L (vi (h c0 i) :: st) h) : WX K M R Q u pc L (vi i :: vr c0 :: st) h := by
  refine WX.lt hc fun hc => ?_
  intro hmd p e s m args below meth c E H locs ls hH hP hS hlv
  have k2 := kk hmd p e s m args below meth c E H locs ls hH hP hS hlv
  have he : (xw K u.1 h)[c0]? = some (K.2.2.1 + c0, .inl (K.2.2.2.1 0, N, .inl fun (j : Nat) => Int32.ofInt (h c0 j))) := by
    rw [xw_get hc.1, hT, xe_arr K 10 N _ (by decide) (by decide)] <;> rfl
  show W p K.1 e (xrm R) s m args below meth c H locs u.2.1 u.2.2 _ (F0 m pc ls (.int (Int32.ofInt i) :: .ref (xad K c0) :: st.map (xv K)))
  rw [xad_lt hc.2]
  refine va_cald E.1 E.2.1 E.2.2.2.2.2.2.2.2.1.1 hP c0 0 he (xtys_at K 0 _ rfl) (xin h0 h1 hN) hd ?_
  have e1 : ((Int32.ofInt i).toNatClampNeg : Int) = i := by rw [xclamp h0 (by omega)]; omega
  show W p K.1 e (xrm R) s m args below meth c H locs u.2.1 u.2.2 _ (F0 m (pc + 1) ls (.int (Int32.ofInt (h c0 ((Int32.ofInt i).toNatClampNeg : Int))) :: st.map (xv K)))
  rw [e1]
  exact k2
theorem xarr_set {K : XK} {n c0 a N : Nat} {h : XH} {i z : Int} {w : Int32} (hc : c0 < n) (hT : xTY c0 = (a, N)) (ha : a = 10 ∨ a = 11 ∨ a = 12) (h0 : 0 ≤ i) (h1 : i < 2147483648) (hw : w = Int32.ofInt z) :
    (xw K n h).set c0 (K.2.2.1 + c0, .inl (K.2.2.2.1 (a - 10), N, .inl (upd (fun (j : Nat) => Int32.ofInt (h c0 j)) (Int32.ofInt i).toNatClampNeg w))) = xw K n (hset h c0 i z) := by
  refine xw_set hc ?_
  rw [hT, xe_arr K a N _ (by omega) (by omega)]
  congr 3
  congr 1
  funext j
  unfold upd hset
  rw [xclamp h0 h1]
  by_cases hj : j = i.toNat
  · rw [if_pos hj, if_pos ⟨rfl, by omega⟩, hw]
  · rw [if_neg hj, if_neg (fun q => hj (by omega))]
theorem x_iastore {c0 N : Nat} {i z : Int} (hd : decode M.1 pc = .ok (.iastore, 1)) (hT : xTY c0 = (11, N)) (hc : xC R M u c0) (hN : N < 2147483648) (h0 : 0 ≤ i) (h1 : i < N) 
    (kk : WX K M R Q u (pc + 1) L st (hset h c0 i z)) : WX K M R Q u pc L (vi z :: vi i :: vr c0 :: st) h := by
  refine WX.lt hc fun hc => ?_
  intro hmd p e s m args below meth c E H locs ls hH hP hS hlv
  have k2 := fun H1 locs1 hH1 hP1 hS1 => kk (fun q => ⟨(hmd q).1, (hmd q).2.arr hT (by decide)⟩) p e s m args below meth c E H1 locs1 ls hH1 hP1 hS1 hlv
  have he : (xw K u.1 h)[c0]? = some (K.2.2.1 + c0, .inl (K.2.2.2.1 1, N, .inl fun (j : Nat) => Int32.ofInt (h c0 j))) := by
    rw [xw_get hc.1, hT, xe_arr K 11 N _ (by decide) (by decide)] <;> rfl
  show W p K.1 e (xrm R) s m args below meth c H locs u.2.1 u.2.2 _ (F0 m pc ls (.int (Int32.ofInt z) :: .int (Int32.ofInt i) :: .ref (xad K c0) :: st.map (xv K)))
  rw [xad_lt hc.2]
  have hlt : (Int32.ofInt i).toNatClampNeg < N := by rw [xclamp h0 (by omega)]; omega
  refine W.iast E.1 E.2.1 (hP c0 _ he) ((E.2.2.2.2.2.2.2.2.1.1.2 1 _ (xtys_at K 1 _ rfl)).1 N (fun (j : Nat) => .int (Int32.ofInt (h c0 j)))) (fun q => by cases q) (by show ¬ (Int32.ofInt i < 0 ∨ (arrV _ _ _).slots.size ≤ _); rw [arrV_size]; exact xin h0 h1 hN) rfl rfl hd fun H1 e1 z1 oq => ?_
  have hP1 : va_P K.2.1 vwCl ((xw K u.1 h).set c0 (K.2.2.1 + c0, .inl (K.2.2.2.1 (11 - 10), N, .inl (upd (fun (j : Nat) => Int32.ofInt (h c0 j)) (Int32.ofInt i).toNatClampNeg ((Int32.ofInt z)))))) H1 := by
    refine hP.set xw_D he ?_ oq
    show H1[K.2.2.1 + c0]? = some (vp_cell _ _)
    rw [e1]
    rw [vp_cell_i, vp_cell_i, arrV_store]
    congr 2
    funext q
    by_cases hq : q = (Int32.ofInt i).toNatClampNeg
    · subst hq
      simp [updV, upd, vp_nar]
      try rfl
    · simp [updV, upd, hq]
  rw [xarr_set (z := z) hc.1 hT (by decide) h0 (by omega) rfl] at hP1
  exact k2 H1 _ (z1.trans hH) hP1 (hS.put z1 oq (xw_D.2 c0 _ he))
theorem x_bastore {c0 N : Nat} {i z : Int} (hd : decode M.1 pc = .ok (.bastore, 1)) (hT : xTY c0 = (12, N)) (hc : xC R M u c0) (hN : N < 2147483648) (h0 : 0 ≤ i) (h1 : i < N) (hz : z = 0 ∨ z = 1) 
    (kk : WX K M R Q u (pc + 1) L st (hset h c0 i z)) : WX K M R Q u pc L (vi z :: vi i :: vr c0 :: st) h := by
  refine WX.lt hc fun hc => ?_
  intro hmd p e s m args below meth c E H locs ls hH hP hS hlv
  have k2 := fun H1 locs1 hH1 hP1 hS1 => kk (fun q => ⟨(hmd q).1, (hmd q).2.arr hT (by decide)⟩) p e s m args below meth c E H1 locs1 ls hH1 hP1 hS1 hlv
  have he : (xw K u.1 h)[c0]? = some (K.2.2.1 + c0, .inl (K.2.2.2.1 2, N, .inl fun (j : Nat) => Int32.ofInt (h c0 j))) := by
    rw [xw_get hc.1, hT, xe_arr K 12 N _ (by decide) (by decide)] <;> rfl
  show W p K.1 e (xrm R) s m args below meth c H locs u.2.1 u.2.2 _ (F0 m pc ls (.int (Int32.ofInt z) :: .int (Int32.ofInt i) :: .ref (xad K c0) :: st.map (xv K)))
  rw [xad_lt hc.2]
  have hlt : (Int32.ofInt i).toNatClampNeg < N := by rw [xclamp h0 (by omega)]; omega
  refine W.zast E.1 E.2.1 (hP c0 _ he) ((E.2.2.2.2.2.2.2.2.1.1.2 2 _ (xtys_at K 2 _ rfl)).1 N (fun (j : Nat) => .int (Int32.ofInt (h c0 j)))) (fun q => by cases q) (by show ¬ (Int32.ofInt i < 0 ∨ (arrV _ _ _).slots.size ≤ _); rw [arrV_size]; exact xin h0 h1 hN) rfl rfl hd fun H1 e1 z1 oq => ?_
  have hP1 : va_P K.2.1 vwCl ((xw K u.1 h).set c0 (K.2.2.1 + c0, .inl (K.2.2.2.1 (12 - 10), N, .inl (upd (fun (j : Nat) => Int32.ofInt (h c0 j)) (Int32.ofInt i).toNatClampNeg (vp_nar .boolean (Int32.ofInt z)))))) H1 := by
    refine hP.set xw_D he ?_ oq
    show H1[K.2.2.1 + c0]? = some (vp_cell _ _)
    rw [e1]
    rw [vp_cell_i, vp_cell_i, arrV_store]
    congr 2
    funext q
    by_cases hq : q = (Int32.ofInt i).toNatClampNeg
    · subst hq
      simp [updV, upd, vp_nar]
      try rfl
    · simp [updV, upd, hq]
  rw [xarr_set (z := z) hc.1 hT (by decide) h0 (by omega) (by rcases hz with q | q <;> subst q <;> rfl)] at hP1
  exact k2 H1 _ (z1.trans hH) hP1 (hS.put z1 oq (xw_D.2 c0 _ he))
theorem xnar_char {z : Int} (hz : 0 ≤ z ∧ z < 65536) : vp_nar .char (Int32.ofInt z) = Int32.ofInt z := by
  obtain ⟨n, rfl⟩ := Int.eq_ofNat_of_zero_le hz.1
  have := (pk_charN (q := n) (by omega)).1
  unfold vp_nar
  show (match narrow .char (.int (nI n)) with | .int y => y | _ => 0) = nI n
  rw [this]
theorem x_castore {c0 N : Nat} {i z : Int} (hd : decode M.1 pc = .ok (.castore, 1)) (hT : xTY c0 = (10, N)) (hc : xC R M u c0) (hN : N < 2147483648) (h0 : 0 ≤ i) (h1 : i < N) (hz : 0 ≤ z ∧ z < 65536) 
    (kk : WX K M R Q u (pc + 1) L st (hset h c0 i z)) : WX K M R Q u pc L (vi z :: vi i :: vr c0 :: st) h := by
  refine WX.lt hc fun hc => ?_
  intro hmd p e s m args below meth c E H locs ls hH hP hS hlv
  have k2 := fun H1 locs1 hH1 hP1 hS1 => kk (fun q => ⟨(hmd q).1, (hmd q).2.arr hT (by decide)⟩) p e s m args below meth c E H1 locs1 ls hH1 hP1 hS1 hlv
  have he : (xw K u.1 h)[c0]? = some (K.2.2.1 + c0, .inl (K.2.2.2.1 0, N, .inl fun (j : Nat) => Int32.ofInt (h c0 j))) := by
    rw [xw_get hc.1, hT, xe_arr K 10 N _ (by decide) (by decide)] <;> rfl
  show W p K.1 e (xrm R) s m args below meth c H locs u.2.1 u.2.2 _ (F0 m pc ls (.int (Int32.ofInt z) :: .int (Int32.ofInt i) :: .ref (xad K c0) :: st.map (xv K)))
  rw [xad_lt hc.2]
  have hlt : (Int32.ofInt i).toNatClampNeg < N := by rw [xclamp h0 (by omega)]; omega
  refine W.cast E.1 E.2.1 (hP c0 _ he) ((E.2.2.2.2.2.2.2.2.1.1.2 0 _ (xtys_at K 0 _ rfl)).1 N (fun (j : Nat) => .int (Int32.ofInt (h c0 j)))) (fun q => by cases q) (by show ¬ (Int32.ofInt i < 0 ∨ (arrV _ _ _).slots.size ≤ _); rw [arrV_size]; exact xin h0 h1 hN) rfl rfl hd fun H1 e1 z1 oq => ?_
  have hP1 : va_P K.2.1 vwCl ((xw K u.1 h).set c0 (K.2.2.1 + c0, .inl (K.2.2.2.1 (10 - 10), N, .inl (upd (fun (j : Nat) => Int32.ofInt (h c0 j)) (Int32.ofInt i).toNatClampNeg (vp_nar .char (Int32.ofInt z)))))) H1 := by
    refine hP.set xw_D he ?_ oq
    show H1[K.2.2.1 + c0]? = some (vp_cell _ _)
    rw [e1]
    rw [vp_cell_i, vp_cell_i, arrV_store]
    congr 2
    funext q
    by_cases hq : q = (Int32.ofInt i).toNatClampNeg
    · subst hq
      simp [updV, upd, vp_nar]
      try rfl
    · simp [updV, upd, hq]
  rw [xarr_set (z := z) hc.1 hT (by decide) h0 (by omega) (xnar_char hz)] at hP1
  exact k2 H1 _ (z1.trans hH) hP1 (hS.put z1 oq (xw_D.2 c0 _ he))
theorem x_aaload0 {c0 N a j r : Nat} {i : Int} (hd : decode M.1 pc = .ok (.aaload, 1)) (hT : xTY c0 = (a, N)) (ha : a = 13 ∨ a = 14 ∨ a = 15) (hc : c0 < u.1 ∧ c0 < 1000000) (hN : N < 2147483648) (hi : i = (j : Int)) (h1 : j < N) (hr : h c0 j = (r : Int) + 1) (hr2 : r < 1000000)
    (kk : WX K M R Q u (pc + 1) L (vr r :: st) h) : WX K M R Q u pc L (vi i :: vr c0 :: st) h := by
  subst hi
  intro hmd p e s m args below meth c E H locs ls hH hP hS hlv
  have k2 := kk hmd p e s m args below meth c E H locs ls hH hP hS hlv
  have he : (xw K u.1 h)[c0]? = some (K.2.2.1 + c0, .inl (K.2.2.2.1 (a - 10), N, .inr (.inr (.inr (.inr fun (j : Nat) => xro K (h c0 j)))))) := by
    rw [xw_get hc.1, hT, xe_ref K a N _ (by rcases ha with q | q | q <;> rw [q] <;> decide)]
  show W p K.1 e (xrm R) s m args below meth c H locs u.2.1 u.2.2 _ (F0 m pc ls (.int (Int32.ofInt j) :: .ref (xad K c0) :: st.map (xv K)))
  rw [xad_lt hc.2]
  have e1 : (Int32.ofInt (j : Int)).toNatClampNeg = j := by rw [xclamp (by omega) (by omega)]; omega
  have e2 : va_rf (xro K (h c0 j)) = xv K (vr r) := by
    rw [hr]
    unfold xro
    rw [if_neg (by omega), show ((r : Int) + 1).toNat - 1 = r by omega]
    show Value.ref _ = Value.ref (xad K r)
    rw [xad_lt hr2]
  have hA : ∃ ty, ArrOfT s (K.2.2.2.1 (a - 10)) ty ∧ ty.isReference = true := by
    rcases ha with q | q | q <;> subst q
    · exact ⟨_, (E.2.2.2.2.2.2.2.2.1.1.2 3 _ (xtys_at K 3 _ rfl)).1, rfl⟩
    · exact ⟨_, (E.2.2.2.2.2.2.2.2.1.1.2 4 _ (xtys_at K 4 _ rfl)).1, rfl⟩
    · exact ⟨_, (E.2.2.2.2.2.2.2.2.1.1.2 5 _ (xtys_at K 5 _ rfl)).1, rfl⟩
  obtain ⟨ty, hA1, hA2⟩ := hA
  refine W.aald (v := xv K (vr r)) (ty := ty) E.1 E.2.1 (hP c0 _ he) (hA1 N (fun (j : Nat) => va_rf (xro K (h c0 j)))) hA2 (fun q => by cases q) (by show ¬ (Int32.ofInt j < 0 ∨ (arrV _ _ _).slots.size ≤ _); rw [arrV_size]; exact (xin (z := (j : Int)) (n := N) (by omega) (by omega) hN)) (by show (arrV _ _ _).slots[_]? = _; rw [e1, arrV_read _ _ h1, e2]) rfl rfl hd k2
theorem x_aaload {c0 N a j : Nat} (r : Nat) {i : Int} (hd : decode M.1 pc = .ok (.aaload, 1)) (hT : xTY c0 = (a, N)) (ha : a = 13 ∨ a = 14 ∨ a = 15) (hc : c0 < M.2.2.2.2 ∧ c0 < 1000000) (hN : N < 2147483648) (hi : i = (j : Int)) (h1 : j < N) (hr : xRF c0 j = r + 1) (hr2 : r < 1000000) (hmd : R.1 = true)
    (kk : WX K M R Q u (pc + 1) L (vr r :: st) h) : WX K M R Q u pc L (vi i :: vr c0 :: st) h := by
  refine WX.md fun md => ?_
  obtain ⟨h2, h3⟩ := md hmd
  have hlt : c0 < u.1 := Nat.lt_of_lt_of_le hc.1 h2
  exact x_aaload0 hd hT ha ⟨hlt, hc.2⟩ hN hi h1 (by rw [h3 c0 j hlt (by rw [hr]; omega), hr]; rfl) hr2 kk
/-- ends -/
theorem xQ_of {v : Option XV} (hq : Q v u.1 h) (hmd : R.1 = true → M.2.2.2.2 ≤ u.1 ∧ xXS u.1 h) {s : State} {args : Array Value} {H : Heap} {locs : List Loc} (hH : H.size = K.2.2.1 + u.1) (hP : va_P K.2.1 vwCl (xw K u.1 h) H) (hS : va_S (xA K) s.heap H locs) (t : State) (ht : t.heap = H) : xQ K R.1 Q args s (.returned (v.map (xv K))) t :=
  ⟨⟨v, u.1, h, rfl, hq, by rw [ht]; exact hH, by rw [ht]; exact hP, fun q => (hmd q).2⟩, hS.F ht⟩
theorem x_ireturn {z : Int} (hd : decode M.1 pc = .ok (.ireturn, 1)) (hr : M.2.2.2.1 = some .int) (hu : u.2 = R.2.2) (hq : Q (some (vi z)) u.1 h) : WX K M R Q u pc L [vi z] h := by
  intro hmd p e s m args below meth c E H locs ls hH hP hS hlv
  have e1 : R.2.2.1 = u.2.1 := by rw [hu]
  have e2 : R.2.2.2 = u.2.2 := by rw [hu]
  rw [e1, e2]
  exact W.iret E.1 E.2.1 (E.2.2.2.1.trans hr) (fun t ht _ => xQ_of hq hmd hH hP hS t ht) hS.2.2 hd E.2.2.2.2.1
theorem x_zreturn {z : Int} (hd : decode M.1 pc = .ok (.ireturn, 1)) (hr : M.2.2.2.1 = some .boolean) (hu : u.2 = R.2.2) (hz : z = 0 ∨ z = 1) (hq : Q (some (vi z)) u.1 h) : WX K M R Q u pc L [vi z] h := by
  intro hmd p e s m args below meth c E H locs ls hH hP hS hlv
  have e1 : R.2.2.1 = u.2.1 := by rw [hu]
  have e2 : R.2.2.2 = u.2.2 := by rw [hu]
  rw [e1, e2]
  exact W.zret E.1 E.2.1 (E.2.2.2.1.trans hr) (by rcases hz with q | q <;> subst q <;> rfl) (fun t ht _ => xQ_of hq hmd hH hP hS t ht) hS.2.2 hd E.2.2.2.2.1
theorem x_creturn {z : Int} (hd : decode M.1 pc = .ok (.ireturn, 1)) (hr : M.2.2.2.1 = some .char) (hu : u.2 = R.2.2) (hz : 0 ≤ z ∧ z < 65536) (hq : Q (some (vi z)) u.1 h) : WX K M R Q u pc L [vi z] h := by
  intro hmd p e s m args below meth c E H locs ls hH hP hS hlv
  have e1 : R.2.2.1 = u.2.1 := by rw [hu]
  have e2 : R.2.2.2 = u.2.2 := by rw [hu]
  rw [e1, e2]
  refine W.zret E.1 E.2.1 (E.2.2.2.1.trans hr) ?_ (fun t ht _ => xQ_of hq hmd hH hP hS t ht) hS.2.2 hd E.2.2.2.2.1
  obtain ⟨n, rfl⟩ := Int.eq_ofNat_of_zero_le hz.1
  exact (pk_charN (q := n) (by omega)).1
theorem x_return (hd : decode M.1 pc = .ok (.return_, 1)) (hr : M.2.2.2.1 = none) (hu : u.2 = R.2.2) (hq : Q none u.1 h) : WX K M R Q u pc L [] h := by
  intro hmd p e s m args below meth c E H locs ls hH hP hS hlv
  have e1 : R.2.2.1 = u.2.1 := by rw [hu]
  have e2 : R.2.2.2 = u.2.2 := by rw [hu]
  rw [e1, e2]
  exact W.vret E.1 E.2.1 (E.2.2.2.1.trans hr) (fun t ht _ => xQ_of hq hmd hH hP hS t ht) hS.2.2 hd E.2.2.2.2.1
end XCELL
end
section
/-! rows of the small machine: calls -/
theorem xPc_blind {K : XK} {M : XM} {md : Bool} {n : Nat} {as : List XV} {h : XH} : FrameBlind (xPc K M md n as h) := by
  intro a U g mk hp
  obtain ⟨h1, h2, h3, h4, h5⟩ := hp
  exact ⟨h1, h2, h3, h4.calling, h5⟩
section XCALL
variable {K : XK} {M : XM} {R : XR} {Q : Option XV → Nat → XH → Prop} {u : Nat × Nat × Nat} {pc : Nat} {L : List (Nat × XV)} {st st0 : List XV} {h : XH}
variable {M' : XM} {R' : XR} {as : List XV} {Q' : Option XV → Nat → XH → Prop} {a : Nat}
def xMode (R : XR) (M : XM) (u : Nat × Nat × Nat) (h : XH) (R' : XR) (M' : XM) : Prop := (R.1 = true → R'.1 = true) ∧ (R'.1 = true → (R.1 = true ∧ M'.2.2.2.2 ≤ M.2.2.2.2) ∨ (M'.2.2.2.2 ≤ u.1 ∧ xXS u.1 h))
theorem x_run {p : Program} {e : Env} {s : State} {m : MethodId} {args : Array Value} {below : List Frame} {meth : Method} {c : Code} (E : XE K M p s m args meth c) {H : Heap} {locs : List Loc} {ls : Array Slot} (hH : H.size = K.2.2.1 + u.1) (hS : va_S (xA K) s.heap H locs) (hlv : lv_has ls M.2.2.1 (xL K L)) (hmd : R.1 = true → M.2.2.2.2 ≤ u.1 ∧ xXS u.1 h) (hm : R.1 = true → R'.1 = true) {st1 : List Value} {ar : Array Value}
    (run : va_Run p K.1 e (xrm R) s m args below meth c H locs u.2.1 u.2.2 R'.2.2.1 R'.2.2.2 (F0 m pc ls st1) (st.map (xv K)) (xQ K R'.1 Q' ar) (xA K))
    (kk : ∀ (v : Option XV) (n' : Nat) (h' : XH), Q' v n' h' → WX K M R Q (n', u.2.1 + R'.2.2.1, u.2.2 + R'.2.2.2) (pc + 3) L (v.toList ++ st) h') :
    W p K.1 e (xrm R) s m args below meth c H locs u.2.1 u.2.2 (MQ below (xQ K R.1 Q) args s R.2.2.1 R.2.2.2 (xA K)) (F0 m pc ls st1) := by
  intro T hT X
  obtain ⟨v, st₀, t, T', Lx, h0, X', hL, e1, e2, ⟨⟨v', n', h', hv, hq, hz, hp', hx'⟩, hz2, hk⟩, stp⟩ := run T hT X
  rw [h0] at hz2 hk
  have hv2 : v = v'.map (xv K) := by cases hv; rfl
  subst hv2
  have hle : u.1 ≤ n' := by rw [hH, hz] at hz2; omega
  have k2 := kk v' n' h' hq (fun q => ⟨Nat.le_trans (hmd q).1 hle, hx' (hm q)⟩) p e s m args below meth c E T'.heap (locs ++ Lx) ls (by rw [e1]; exact hz) (by rw [e1]; exact hp')
    ⟨Nat.le_trans hS.1 (by rw [e1]; exact hz2), fun q h1 h2 => by rw [e1, hk q (Nat.lt_of_lt_of_le h1 hS.1) h2]; exact hS.2.1 q h1 h2, fun q hq => by
      rcases List.mem_append.mp hq with h | h
      · exact hS.2.2 q h
      · exact hL q h⟩ hlv
  obtain ⟨t2, a1, b1⟩ := k2 T' rfl X'
  refine ⟨t2, stp t2 ?_, b1⟩
  have e3 : (v'.map (xv K)).toList ++ st.map (xv K) = (v'.toList ++ st).map (xv K) := by cases v' <;> simp
  rw [e3]
  exact a1
theorem x_pre {p : Program} {s : State} {m : MethodId} {args : Array Value} {meth : Method} {c : Code} (E : XE K M p s m args meth c) {H : Heap} {locs : List Loc} (hH : H.size = K.2.2.1 + u.1) (hP : va_P K.2.1 vwCl (xw K u.1 h) H) (hS : va_S (xA K) s.heap H locs) (hmd : R.1 = true → M.2.2.2.2 ≤ u.1 ∧ xXS u.1 h) (hm : xMode R M u h R' M') (U : State) (hU : U.heap = H) (hW : s.WarmedH U.vm) : xPc K M' R'.1 u.1 as h (as.map (xv K)).toArray U := by
  refine ⟨rfl, by rw [hU]; exact hH, by rw [hU]; exact hP, XF.moved hW hU hS E.2.2.2.2.2.2.2.2.1, fun q => ?_⟩
  rcases hm.2 q with ⟨q1, q2⟩ | q1
  · exact ⟨Nat.le_trans q2 (hmd q1).1, (hmd q1).2⟩
  · exact q1
def xRoom (R : XR) (u : Nat × Nat × Nat) (R' : XR) : Prop := R'.2.1 + 1 ≤ R.2.1 ∧ u.2.1 + R'.2.2.1 ≤ R.2.2.1 ∧ u.2.2 + R'.2.2.2 ≤ R.2.2.2
def xcs (st : List XV) : Nat := (st.map fun v => match v with | .inr (.inr _) => 2 | _ => 1).sum
theorem xcs_eq (K : XK) (st : List XV) : ((st.map (xv K)).map fun v => v.category).sum = xcs st := by
  unfold xcs
  rw [List.map_map]
  congr 1
  apply List.map_congr_left
  intro v _
  exact xcat K v
theorem x_B {R1 : Room} {s : State} {args : Array Value} {own : String} {i : Nat} (hts : ∀ w ∈ xTb, w.before args s = true) (hF : xMF M' a) (hR : (xrm R').frames + 1 ≤ R1.frames ∧ 38 * (R'.2.1 + 1) ≤ R1.locals) (hl : Cond.methodLink own i M'.2.1 ∈ xTb) : CallB R1 s args own i M'.2.1 M'.1 M'.2.2.1 M'.2.2.2.1 (Cond.code M'.2.1 M'.1 M'.2.2.1 M'.2.2.2.1 :: xTb) (xrm R') R'.2.2.1 R'.2.2.2 a := by
  obtain ⟨-, h1, h2, h3, h4, h5, h6⟩ := hF
  exact callB_of a hts (xGoodIn h1) rfl rfl rfl (hts _ h2) (hts _ hl) ⟨h3, h4, h5⟩ ⟨hR.1, by show 8 + (M'.2.2.1 + 11) + 38 * R'.2.1 ≤ _; omega⟩
theorem x_BN {R1 : Room} {s : State} {args : Array Value} {own host : String} {i : Nat} (hts : ∀ w ∈ xTb, w.before args s = true) (hF : xMF M' a) (hR : (xrm R').frames + 1 ≤ R1.frames ∧ 38 * (R'.2.1 + 1) ≤ R1.locals) (hl : Cond.methodLinkNest own i M'.2.1 host ∈ xTb) : va_CN R1 s args own i M'.2.1 host M'.1 M'.2.2.1 M'.2.2.2.1 (Cond.code M'.2.1 M'.1 M'.2.2.1 M'.2.2.2.1 :: xTb) (xrm R') R'.2.2.1 R'.2.2.2 a := by
  obtain ⟨-, h1, h2, h3, h4, h5, h6⟩ := hF
  exact va_cnB a hts (xGoodIn h1) rfl rfl rfl (va_Nw.of rfl (hts _ hl)) (hts _ h2) ⟨h3, h4, h5⟩ ⟨hR.1, by show 8 + (M'.2.2.1 + 11) + 38 * R'.2.1 ≤ _; omega⟩
theorem xRoom_of (hR : xRoom R u R') : (xrm R').frames + 1 ≤ (xrm R).frames ∧ 38 * (R'.2.1 + 1) ≤ (xrm R).locals := ⟨hR.1, by show 38 * (R'.2.1 + 1) ≤ 38 * R.2.1; have := hR.1; omega⟩
theorem x_callV {c0 ci N i : Nat} (hM : MX K M' R' u.1 (vr c0 :: as) h Q') (hF : xMF M' a) (hV : xMV M') (hl : xML M.2.1.cls i M'.2.1) (hd : decode M.1 pc = .ok (.invokevirtual i, 3)) (hst : as.reverse ++ vr c0 :: st = st0) (hlen : as.length = a) (hT : xTY c0 = (ci, N)) (hci : ci < 10 ∧ (vwCl[ci]?).map (fun q => q.1) = some M'.2.1.cls) (hc : xC R M u c0) (hR : xRoom R u R') (hw : xcs st ≤ 8) (hm : xMode R M u h R' M')
    (kk : ∀ (v : Option XV) (n' : Nat) (h' : XH), Q' v n' h' → WX K M R Q (n', u.2.1 + R'.2.2.1, u.2.2 + R'.2.2.2) (pc + 3) L (v.toList ++ st) h') : WX K M R Q u pc L st0 h := by
  refine WX.lt hc fun hc => ?_
  intro hmd p e s m args below meth c E H locs ls hH hP hS hlv
  subst hst
  have hts := E.2.2.2.2.2.2.2.1
  have hcf : CallFix p m c M.1 M.2.2.1 s args xTb M.2.1.cls := ⟨E.1, E.2.1, E.2.2.1, E.2.2.2.2.2.2.1, hts⟩
  have hpre := fun (U : State) (hU : U.heap = H) (hW : s.WarmedH U.vm) => x_pre (as := vr c0 :: as) (R' := R') (M' := M') E hH hP hS hmd hm U hU hW
  have hrecv : ∃ cell : Cell, H[K.2.2.1 + c0]? = some cell ∧ cell.vm.isStatics = false ∧ s.vm.findClass M'.2.1.cls = some cell.cls := by
    cases hq : vwCl[ci]? with
    | none => rw [hq] at hci; cases hci.2
    | some q =>
      rw [hq] at hci
      have e1 : q.1 = M'.2.1.cls := Option.some.inj hci.2
      have he : (xw K u.1 h)[c0]? = some (K.2.2.1 + c0, .inr (ci, (List.range N).map fun (k : Nat) => if xFS ci k = 2 then va_rf (xro K (h c0 k)) else .int (Int32.ofInt (h c0 k)))) := by
        rw [xw_get hc.1, hT, xe_obj K _ hci.1]
      have := va_recv E.2.2.2.2.2.2.2.2.1.1 hP hq he
      rw [e1] at this
      exact this
  have hst1 : (as.reverse ++ vr c0 :: st).map (xv K) = (as.map (xv K)).reverse ++ .ref (K.2.2.1 + c0) :: st.map (xv K) := by
    rw [List.map_append, List.map_reverse, List.map_cons]
    show _ ++ Value.ref (xad K c0) :: _ = _
    rw [xad_lt hc.2]
  have e0 : (vr c0 :: as).map (xv K) = Value.ref (K.2.2.1 + c0) :: as.map (xv K) := by
    show Value.ref (xad K c0) :: _ = _
    rw [xad_lt hc.2]
  rw [e0] at hpre
  have hw2 : 2 * (F0 m pc ls ((as.reverse ++ vr c0 :: st).map (xv K))).monitorRoom + ((st.map (xv K)).map fun v => v.category).sum ≤ 8 := by
    rw [xcs_eq]
    exact (by show 2 * 0 + _ ≤ 8; omega)
  rcases hl with hl | ⟨host, hl⟩
  · exact x_run E hH hS hlv hmd hm.1 (va_runV (C := M'.2.1.cls) (b := K.2.2.1 + c0) (As := as.map (xv K)) hcf hM ⟨x_B hts hF (xRoom_of hR) hl, hts _ hV.1, hts _ hV.2⟩ ⟨xPc_blind, hrecv, hpre⟩ rfl (by rw [List.length_map]; exact hlen) hlv.1 hst1 hw2 hd hR.2) kk
  · exact x_run E hH hS hlv hmd hm.1 (va_runVN (C := M'.2.1.cls) (b := K.2.2.1 + c0) (As := as.map (xv K)) hcf hM ⟨x_BN hts hF (xRoom_of hR) hl, hts _ hV.1, hts _ hV.2⟩ ⟨xPc_blind, hrecv, hpre⟩ rfl (by rw [List.length_map]; exact hlen) hlv.1 hst1 hw2 hd hR.2) kk
theorem x_callI {c0 i : Nat} (hM : MX K M' R' u.1 (vr c0 :: as) h Q') (hF : xMF M' a) (hV : xMI M') (hr : M'.2.2.2.1 = none) (hl : xML M.2.1.cls i M'.2.1) (hd : decode M.1 pc = .ok (.invokespecial i, 3)) (hst : as.reverse ++ vr c0 :: st = st0) (hlen : as.length = a) (hc : c0 < 1000000) (hR : xRoom R u R') (hw : xcs st ≤ 8) (hm : xMode R M u h R' M')
    (kk : ∀ (v : Option XV) (n' : Nat) (h' : XH), Q' v n' h' → WX K M R Q (n', u.2.1 + R'.2.2.1, u.2.2 + R'.2.2.2) (pc + 3) L (v.toList ++ st) h') : WX K M R Q u pc L st0 h := by
  intro hmd p e s m args below meth c E H locs ls hH hP hS hlv
  obtain ⟨cd, yn, ml, rt, lo⟩ := M'
  have hr : rt = none := hr
  subst hr
  subst hst
  have hts := E.2.2.2.2.2.2.2.1
  have hcf : CallFix p m c M.1 M.2.2.1 s args xTb M.2.1.cls := ⟨E.1, E.2.1, E.2.2.1, E.2.2.2.2.2.2.1, hts⟩
  have hpre := fun (U : State) (hU : U.heap = H) (hW : s.WarmedH U.vm) => x_pre (as := vr c0 :: as) (R' := R') (M' := (cd, yn, ml, none, lo)) E hH hP hS hmd hm U hU hW
  have hst1 : (as.reverse ++ vr c0 :: st).map (xv K) = (as.map (xv K)).reverse ++ .ref (K.2.2.1 + c0) :: st.map (xv K) := by
    rw [List.map_append, List.map_reverse, List.map_cons]
    show _ ++ Value.ref (xad K c0) :: _ = _
    rw [xad_lt hc]
  have e0 : (vr c0 :: as).map (xv K) = Value.ref (K.2.2.1 + c0) :: as.map (xv K) := by
    show Value.ref (xad K c0) :: _ = _
    rw [xad_lt hc]
  rw [e0] at hpre
  have hw2 : 2 * (F0 m pc ls ((as.reverse ++ vr c0 :: st).map (xv K))).monitorRoom + ((st.map (xv K)).map fun v => v.category).sum ≤ 8 := by
    rw [xcs_eq]
    exact (by show 2 * 0 + _ ≤ 8; omega)
  rcases hl with hl | ⟨host, hl⟩
  · have hB := x_B hts hF (xRoom_of hR) hl
    exact x_run E hH hS hlv hmd hm.1 (va_runI (b := K.2.2.1 + c0) (As := as.map (xv K)) hcf hM ⟨hB, hV.2, hts _ hV.1⟩ ⟨xPc_blind, hpre⟩ rfl (by rw [List.length_map]; exact hlen) hlv.1 hst1 hw2 hd hR.2) kk
  · have hB := x_BN hts hF (xRoom_of hR) hl
    exact x_run E hH hS hlv hmd hm.1 (va_runIN (b := K.2.2.1 + c0) (As := as.map (xv K)) hcf hM ⟨hB, hV.2, hts _ hV.1⟩ ⟨xPc_blind, hpre⟩ rfl (by rw [List.length_map]; exact hlen) hlv.1 hst1 hw2 hd hR.2) kk
theorem x_callS {i : Nat} (hM : MX K M' R' u.1 as h Q') (hF : xMF M' a) (hV : xMS M') (hl : xML M.2.1.cls i M'.2.1) (hd : decode M.1 pc = .ok (.invokestatic i, 3)) (hst : as.reverse ++ st = st0) (hlen : as.length = a) (hR : xRoom R u R') (hw : xcs st ≤ 8) (hm : xMode R M u h R' M')
    (kk : ∀ (v : Option XV) (n' : Nat) (h' : XH), Q' v n' h' → WX K M R Q (n', u.2.1 + R'.2.2.1, u.2.2 + R'.2.2.2) (pc + 3) L (v.toList ++ st) h') : WX K M R Q u pc L st0 h := by
  intro hmd p e s m args below meth c E H locs ls hH hP hS hlv
  subst hst
  have hts := E.2.2.2.2.2.2.2.1
  have hcf : CallFix p m c M.1 M.2.2.1 s args xTb M.2.1.cls := ⟨E.1, E.2.1, E.2.2.1, E.2.2.2.2.2.2.1, hts⟩
  have hpre := fun (U : State) (hU : U.heap = H) (hW : s.WarmedH U.vm) => x_pre (as := as) (R' := R') (M' := M') E hH hP hS hmd hm U hU hW
  have hst1 : (as.reverse ++ st).map (xv K) = (as.map (xv K)).reverse ++ st.map (xv K) := by
    rw [List.map_append, List.map_reverse]
  have hw2 : 2 * (F0 m pc ls ((as.reverse ++ st).map (xv K))).monitorRoom + ((st.map (xv K)).map fun v => v.category).sum ≤ 8 := by
    rw [xcs_eq]
    exact (by show 2 * 0 + _ ≤ 8; omega)
  rcases hl with hl | ⟨host, hl⟩
  · exact x_run E hH hS hlv hmd hm.1 (va_runS (As := as.map (xv K)) hcf hM ⟨x_B hts hF (xRoom_of hR) hl, hts _ hV⟩ ⟨xPc_blind, hpre⟩ rfl (by rw [List.length_map]; exact hlen) hlv.1 hst1 hw2 hd hR.2) kk
  · exact x_run E hH hS hlv hmd hm.1 (va_runSN (As := as.map (xv K)) hcf hM ⟨x_BN hts hF (xRoom_of hR) hl, hts _ hV, trivial⟩ ⟨xPc_blind, hpre⟩ rfl (by rw [List.length_map]; exact hlen) hlv.1 hst1 hw2 hd hR.2) kk
/-! methods that make nothing: an answer that is a number, or none -/
def qI (n : Nat) (P : Int → XH → Prop) : Option XV → Nat → XH → Prop := fun v n' h' => n' = n ∧ ∃ z : Int, v = some (vi z) ∧ P z h'
def qV (n : Nat) (P : XH → Prop) : Option XV → Nat → XH → Prop := fun v n' h' => n' = n ∧ v = none ∧ P h'
abbrev MI (K : XK) (M : XM) (d n : Nat) (as : List XV) (h : XH) (P : Int → XH → Prop) : Prop := MX K M (true, d, 0, 0) n as h (qI n P)
abbrev MV (K : XK) (M : XM) (d n : Nat) (as : List XV) (h : XH) (P : XH → Prop) : Prop := MX K M (true, d, 0, 0) n as h (qV n P)
abbrev WI (K : XK) (M : XM) (d n : Nat) (Q : Option XV → Nat → XH → Prop) (pc : Nat) (L : List (Nat × XV)) (st : List XV) (h : XH) : Prop := WX K M (true, d, 0, 0) Q (n, 0, 0) pc L st h
variable {d d' n : Nat}
theorem x_Vi {c0 ci N i : Nat} {P : Int → XH → Prop} (hM : MI K M' d' n (vr c0 :: as) h P) (hF : xMF M' a) (hV : xMV M') (hl : xML M.2.1.cls i M'.2.1) (hd : decode M.1 pc = .ok (.invokevirtual i, 3)) (hst : as.reverse ++ vr c0 :: st = st0) (hlen : as.length = a) (hT : xTY c0 = (ci, N)) (hci : ci < 10 ∧ (vwCl[ci]?).map (fun q => q.1) = some M'.2.1.cls) (hc : c0 < M.2.2.2.2 ∧ c0 < 1000000) (hR : d' + 1 ≤ d) (hw : xcs st ≤ 8) (hm : M'.2.2.2.2 ≤ M.2.2.2.2)
    (kk : ∀ (z : Int) (h' : XH), P z h' → WI K M d n Q (pc + 3) L (vi z :: st) h') : WI K M d n Q pc L st0 h := by
  refine x_callV hM hF hV hl hd hst hlen hT hci ⟨Or.inr ⟨rfl, hc.1⟩, hc.2⟩ ⟨hR, Nat.le_refl _, Nat.le_refl _⟩ hw ⟨fun _ => rfl, fun _ => Or.inl ⟨rfl, hm⟩⟩ (fun v n' h' hq => ?_)
  obtain ⟨e1, z, e2, hp⟩ := hq
  have e1 : n' = n := e1
  subst e1; subst e2
  exact kk z h' hp
theorem x_Vv {c0 ci N i : Nat} {P : XH → Prop} (hM : MV K M' d' n (vr c0 :: as) h P) (hF : xMF M' a) (hV : xMV M') (hl : xML M.2.1.cls i M'.2.1) (hd : decode M.1 pc = .ok (.invokevirtual i, 3)) (hst : as.reverse ++ vr c0 :: st = st0) (hlen : as.length = a) (hT : xTY c0 = (ci, N)) (hci : ci < 10 ∧ (vwCl[ci]?).map (fun q => q.1) = some M'.2.1.cls) (hc : c0 < M.2.2.2.2 ∧ c0 < 1000000) (hR : d' + 1 ≤ d) (hw : xcs st ≤ 8) (hm : M'.2.2.2.2 ≤ M.2.2.2.2)
    (kk : ∀ (h' : XH), P h' → WI K M d n Q (pc + 3) L st h') : WI K M d n Q pc L st0 h := by
  refine x_callV hM hF hV hl hd hst hlen hT hci ⟨Or.inr ⟨rfl, hc.1⟩, hc.2⟩ ⟨hR, Nat.le_refl _, Nat.le_refl _⟩ hw ⟨fun _ => rfl, fun _ => Or.inl ⟨rfl, hm⟩⟩ (fun v n' h' hq => ?_)
  obtain ⟨e1, e2, hp⟩ := hq
  have e1 : n' = n := e1
  subst e1; subst e2
  exact kk h' hp
theorem x_Si {i : Nat} {P : Int → XH → Prop} (hM : MI K M' d' n as h P) (hF : xMF M' a) (hV : xMS M') (hl : xML M.2.1.cls i M'.2.1) (hd : decode M.1 pc = .ok (.invokestatic i, 3)) (hst : as.reverse ++ st = st0) (hlen : as.length = a) (hR : d' + 1 ≤ d) (hw : xcs st ≤ 8) (hm : M'.2.2.2.2 ≤ M.2.2.2.2)
    (kk : ∀ (z : Int) (h' : XH), P z h' → WI K M d n Q (pc + 3) L (vi z :: st) h') : WI K M d n Q pc L st0 h := by
  refine x_callS hM hF hV hl hd hst hlen ⟨hR, Nat.le_refl _, Nat.le_refl _⟩ hw ⟨fun _ => rfl, fun _ => Or.inl ⟨rfl, hm⟩⟩ (fun v n' h' hq => ?_)
  obtain ⟨e1, z, e2, hp⟩ := hq
  have e1 : n' = n := e1
  subst e1; subst e2
  exact kk z h' hp
theorem x_ri {z : Int} {P : Int → XH → Prop} (hd : decode M.1 pc = .ok (.ireturn, 1)) (hr : M.2.2.2.1 = some .int) (hq : P z h) : WI K M d n (qI n P) pc L [vi z] h := x_ireturn hd hr rfl ⟨rfl, z, rfl, hq⟩
theorem x_rz {z : Int} {P : Int → XH → Prop} (hd : decode M.1 pc = .ok (.ireturn, 1)) (hr : M.2.2.2.1 = some .boolean) (hz : z = 0 ∨ z = 1) (hq : P z h) : WI K M d n (qI n P) pc L [vi z] h := x_zreturn hd hr rfl hz ⟨rfl, z, rfl, hq⟩
theorem x_rv {P : XH → Prop} (hd : decode M.1 pc = .ok (.return_, 1)) (hr : M.2.2.2.1 = none) (hq : P h) : WI K M d n (qV n P) pc L [] h := x_return hd hr rfl ⟨rfl, rfl, hq⟩
end XCALL
end
