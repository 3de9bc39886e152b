section
-- ===== PART A: goes FIRST, ahead of the names: the tables' words, and 'selects' of the private methods out of them =====
/-- a private method of a class that the tables say can be made, by its rows of tables_1 -/
def lw_okq (q : MethodName × Nat) : Prop := (q.1.cls ≠ "java/lang/invoke/MethodHandle" ∧ q.1.cls ≠ "java/lang/invoke/VarHandle") ∧ Cond.instantiable q.1.cls q.2 ∈ tables_1 ∧ Cond.privateMethod q.1 ∈ tables_1 ∧ Cond.instanceMethod q.1 ∈ tables_1
theorem lw_p0 : lw_okq (⟨"SqueezedCode$Text", "widthAt", "(I)I"⟩, 4) := ⟨⟨by decide +kernel, by decide +kernel⟩, List.mem_of_getElem? (i := 26) (by decide +kernel), List.mem_of_getElem? (i := 375) (by decide +kernel), List.mem_of_getElem? (i := 376) (by decide +kernel)⟩
theorem lw_p1 : lw_okq (⟨"SqueezedCode$Text", "findLostTarget", "()I"⟩, 4) := ⟨⟨by decide +kernel, by decide +kernel⟩, List.mem_of_getElem? (i := 26) (by decide +kernel), List.mem_of_getElem? (i := 445) (by decide +kernel), List.mem_of_getElem? (i := 446) (by decide +kernel)⟩
theorem lw_p2 : lw_okq (⟨"SqueezedCode$Layout", "measureReaches", "()V"⟩, 16) := ⟨⟨by decide +kernel, by decide +kernel⟩, List.mem_of_getElem? (i := 157) (by decide +kernel), List.mem_of_getElem? (i := 476) (by decide +kernel), List.mem_of_getElem? (i := 477) (by decide +kernel)⟩
theorem lw_p3 : lw_okq (⟨"SqueezedCode$Layout", "leadsOn", "(I)Z"⟩, 16) := ⟨⟨by decide +kernel, by decide +kernel⟩, List.mem_of_getElem? (i := 157) (by decide +kernel), List.mem_of_getElem? (i := 481) (by decide +kernel), List.mem_of_getElem? (i := 482) (by decide +kernel)⟩
theorem lw_p4 : lw_okq (⟨"SqueezedCode$Layout", "findBest", "()V"⟩, 16) := ⟨⟨by decide +kernel, by decide +kernel⟩, List.mem_of_getElem? (i := 157) (by decide +kernel), List.mem_of_getElem? (i := 491) (by decide +kernel), List.mem_of_getElem? (i := 492) (by decide +kernel)⟩
theorem lw_p5 : lw_okq (⟨"SqueezedCode$Layout", "offer", "(II)V"⟩, 16) := ⟨⟨by decide +kernel, by decide +kernel⟩, List.mem_of_getElem? (i := 157) (by decide +kernel), List.mem_of_getElem? (i := 500) (by decide +kernel), List.mem_of_getElem? (i := 501) (by decide +kernel)⟩
theorem lw_p6 : lw_okq (⟨"SqueezedCode$Layout", "matches", "(LSqueezedCode$Entry;I)Z"⟩, 16) := ⟨⟨by decide +kernel, by decide +kernel⟩, List.mem_of_getElem? (i := 157) (by decide +kernel), List.mem_of_getElem? (i := 504) (by decide +kernel), List.mem_of_getElem? (i := 505) (by decide +kernel)⟩
theorem lw_p7 : lw_okq (⟨"SqueezedCode$Layout", "placeAll", "()V"⟩, 16) := ⟨⟨by decide +kernel, by decide +kernel⟩, List.mem_of_getElem? (i := 157) (by decide +kernel), List.mem_of_getElem? (i := 515) (by decide +kernel), List.mem_of_getElem? (i := 516) (by decide +kernel)⟩
theorem lw_p8 : lw_okq (⟨"SqueezedCode$Layout", "layNibbles", "()V"⟩, 16) := ⟨⟨by decide +kernel, by decide +kernel⟩, List.mem_of_getElem? (i := 157) (by decide +kernel), List.mem_of_getElem? (i := 519) (by decide +kernel), List.mem_of_getElem? (i := 520) (by decide +kernel)⟩
theorem lw_p9 : lw_okq (⟨"SqueezedCode$Layout", "layReference", "(I)V"⟩, 16) := ⟨⟨by decide +kernel, by decide +kernel⟩, List.mem_of_getElem? (i := 157) (by decide +kernel), List.mem_of_getElem? (i := 523) (by decide +kernel), List.mem_of_getElem? (i := 524) (by decide +kernel)⟩
theorem lw_p10 : lw_okq (⟨"SqueezedCode$Layout", "layAlone", "(I)V"⟩, 16) := ⟨⟨by decide +kernel, by decide +kernel⟩, List.mem_of_getElem? (i := 157) (by decide +kernel), List.mem_of_getElem? (i := 527) (by decide +kernel), List.mem_of_getElem? (i := 528) (by decide +kernel)⟩
theorem lw_p11 : lw_okq (⟨"SqueezedCode", "settle", "()V"⟩, 7) := ⟨⟨by decide +kernel, by decide +kernel⟩, List.mem_of_getElem? (i := 18) (by decide +kernel), List.mem_of_getElem? (i := 571) (by decide +kernel), List.mem_of_getElem? (i := 572) (by decide +kernel)⟩
theorem lw_p12 : lw_okq (⟨"SqueezedCode", "hindranceTo", "(III)I"⟩, 7) := ⟨⟨by decide +kernel, by decide +kernel⟩, List.mem_of_getElem? (i := 18) (by decide +kernel), List.mem_of_getElem? (i := 592) (by decide +kernel), List.mem_of_getElem? (i := 593) (by decide +kernel)⟩
theorem lw_p13 : lw_okq (⟨"SqueezedCode$Layout", "fewestWithCandidate", "()I"⟩, 16) := ⟨⟨by decide +kernel, by decide +kernel⟩, List.mem_of_getElem? (i := 157) (by decide +kernel), List.mem_of_getElem? (i := 646) (by decide +kernel), List.mem_of_getElem? (i := 647) (by decide +kernel)⟩
theorem lw_p14 : lw_okq (⟨"SqueezedCode$Choice", "tryAll", "(II)V"⟩, 6) := ⟨⟨by decide +kernel, by decide +kernel⟩, List.mem_of_getElem? (i := 225) (by decide +kernel), List.mem_of_getElem? (i := 662) (by decide +kernel), List.mem_of_getElem? (i := 663) (by decide +kernel)⟩
theorem lw_p15 : lw_okq (⟨"SqueezedCode$Run", "takeStep", "()V"⟩, 17) := ⟨⟨by decide +kernel, by decide +kernel⟩, List.mem_of_getElem? (i := 253) (by decide +kernel), List.mem_of_getElem? (i := 779) (by decide +kernel), List.mem_of_getElem? (i := 780) (by decide +kernel)⟩
def lw_privs_1 : List (MethodName × Nat) := [(⟨"SqueezedCode$Text", "widthAt", "(I)I"⟩, 4), (⟨"SqueezedCode$Text", "findLostTarget", "()I"⟩, 4), (⟨"SqueezedCode$Layout", "measureReaches", "()V"⟩, 16), (⟨"SqueezedCode$Layout", "leadsOn", "(I)Z"⟩, 16), (⟨"SqueezedCode$Layout", "findBest", "()V"⟩, 16), (⟨"SqueezedCode$Layout", "offer", "(II)V"⟩, 16), (⟨"SqueezedCode$Layout", "matches", "(LSqueezedCode$Entry;I)Z"⟩, 16), (⟨"SqueezedCode$Layout", "placeAll", "()V"⟩, 16), (⟨"SqueezedCode$Layout", "layNibbles", "()V"⟩, 16), (⟨"SqueezedCode$Layout", "layReference", "(I)V"⟩, 16), (⟨"SqueezedCode$Layout", "layAlone", "(I)V"⟩, 16), (⟨"SqueezedCode", "settle", "()V"⟩, 7), (⟨"SqueezedCode", "hindranceTo", "(III)I"⟩, 7), (⟨"SqueezedCode$Layout", "fewestWithCandidate", "()I"⟩, 16), (⟨"SqueezedCode$Choice", "tryAll", "(II)V"⟩, 6), (⟨"SqueezedCode$Run", "takeStep", "()V"⟩, 17)]
theorem lw_r1 : ∀ q ∈ lw_privs_1, lw_okq q := List.forall_mem_cons.mpr ⟨lw_p0, List.forall_mem_cons.mpr ⟨lw_p1, List.forall_mem_cons.mpr ⟨lw_p2, List.forall_mem_cons.mpr ⟨lw_p3, List.forall_mem_cons.mpr ⟨lw_p4, List.forall_mem_cons.mpr ⟨lw_p5, List.forall_mem_cons.mpr ⟨lw_p6, List.forall_mem_cons.mpr ⟨lw_p7, List.forall_mem_cons.mpr ⟨lw_p8, List.forall_mem_cons.mpr ⟨lw_p9, List.forall_mem_cons.mpr ⟨lw_p10, List.forall_mem_cons.mpr ⟨lw_p11, List.forall_mem_cons.mpr ⟨lw_p12, List.forall_mem_cons.mpr ⟨lw_p13, List.forall_mem_cons.mpr ⟨lw_p14, List.forall_mem_cons.mpr ⟨lw_p15, fun _ h => absurd h List.not_mem_nil⟩⟩⟩⟩⟩⟩⟩⟩⟩⟩⟩⟩⟩⟩⟩⟩
theorem lw_p16 : lw_okq (⟨"SqueezedCode$Run", "useLine", "(I)V"⟩, 17) := ⟨⟨by decide +kernel, by decide +kernel⟩, List.mem_of_getElem? (i := 253) (by decide +kernel), List.mem_of_getElem? (i := 784) (by decide +kernel), List.mem_of_getElem? (i := 785) (by decide +kernel)⟩
theorem lw_p17 : lw_okq (⟨"SqueezedCode$Run", "placeOf", "(I)I"⟩, 17) := ⟨⟨by decide +kernel, by decide +kernel⟩, List.mem_of_getElem? (i := 253) (by decide +kernel), List.mem_of_getElem? (i := 788) (by decide +kernel), List.mem_of_getElem? (i := 789) (by decide +kernel)⟩
theorem lw_p18 : lw_okq (⟨"SqueezedCode$Run", "work", "(II)V"⟩, 17) := ⟨⟨by decide +kernel, by decide +kernel⟩, List.mem_of_getElem? (i := 253) (by decide +kernel), List.mem_of_getElem? (i := 794) (by decide +kernel), List.mem_of_getElem? (i := 795) (by decide +kernel)⟩
theorem lw_p19 : lw_okq (⟨"SqueezedCode$Run", "tellOut", "(I)V"⟩, 17) := ⟨⟨by decide +kernel, by decide +kernel⟩, List.mem_of_getElem? (i := 253) (by decide +kernel), List.mem_of_getElem? (i := 799) (by decide +kernel), List.mem_of_getElem? (i := 800) (by decide +kernel)⟩
theorem lw_p20 : lw_okq (⟨"SqueezedCode$Run", "turn", "(II)V"⟩, 17) := ⟨⟨by decide +kernel, by decide +kernel⟩, List.mem_of_getElem? (i := 253) (by decide +kernel), List.mem_of_getElem? (i := 803) (by decide +kernel), List.mem_of_getElem? (i := 804) (by decide +kernel)⟩
theorem lw_p21 : lw_okq (⟨"SqueezedCode$Run", "addressOf", "(I)I"⟩, 17) := ⟨⟨by decide +kernel, by decide +kernel⟩, List.mem_of_getElem? (i := 253) (by decide +kernel), List.mem_of_getElem? (i := 807) (by decide +kernel), List.mem_of_getElem? (i := 808) (by decide +kernel)⟩
theorem lw_p22 : lw_okq (⟨"SqueezedCode$Run", "jumpBySum", "()V"⟩, 17) := ⟨⟨by decide +kernel, by decide +kernel⟩, List.mem_of_getElem? (i := 253) (by decide +kernel), List.mem_of_getElem? (i := 812) (by decide +kernel), List.mem_of_getElem? (i := 813) (by decide +kernel)⟩
theorem lw_p23 : lw_okq (⟨"SqueezedCodeModel", "told", "(IIIIII)V"⟩, 31) := ⟨⟨by decide +kernel, by decide +kernel⟩, List.mem_of_getElem? (i := 844) (by decide +kernel), List.mem_of_getElem? (i := 850) (by decide +kernel), List.mem_of_getElem? (i := 851) (by decide +kernel)⟩
theorem lw_p24 : lw_okq (⟨"SqueezedCodeModel", "oneIs", "(II)V"⟩, 31) := ⟨⟨by decide +kernel, by decide +kernel⟩, List.mem_of_getElem? (i := 844) (by decide +kernel), List.mem_of_getElem? (i := 854) (by decide +kernel), List.mem_of_getElem? (i := 855) (by decide +kernel)⟩
theorem lw_p25 : lw_okq (⟨"SqueezedCodeModel", "begin", "()V"⟩, 31) := ⟨⟨by decide +kernel, by decide +kernel⟩, List.mem_of_getElem? (i := 844) (by decide +kernel), List.mem_of_getElem? (i := 858) (by decide +kernel), List.mem_of_getElem? (i := 859) (by decide +kernel)⟩
theorem lw_p26 : lw_okq (⟨"SqueezedCodeModel", "cover", "()V"⟩, 31) := ⟨⟨by decide +kernel, by decide +kernel⟩, List.mem_of_getElem? (i := 844) (by decide +kernel), List.mem_of_getElem? (i := 865) (by decide +kernel), List.mem_of_getElem? (i := 866) (by decide +kernel)⟩
theorem lw_p27 : lw_okq (⟨"SqueezedCodeModel", "coverWith", "(Z)I"⟩, 31) := ⟨⟨by decide +kernel, by decide +kernel⟩, List.mem_of_getElem? (i := 844) (by decide +kernel), List.mem_of_getElem? (i := 869) (by decide +kernel), List.mem_of_getElem? (i := 870) (by decide +kernel)⟩
theorem lw_p28 : lw_okq (⟨"SqueezedCodeModel", "matches", "(II)Z"⟩, 31) := ⟨⟨by decide +kernel, by decide +kernel⟩, List.mem_of_getElem? (i := 844) (by decide +kernel), List.mem_of_getElem? (i := 879) (by decide +kernel), List.mem_of_getElem? (i := 880) (by decide +kernel)⟩
theorem lw_p29 : lw_okq (⟨"SqueezedCodeModel", "entryAt", "(I)I"⟩, 31) := ⟨⟨by decide +kernel, by decide +kernel⟩, List.mem_of_getElem? (i := 844) (by decide +kernel), List.mem_of_getElem? (i := 883) (by decide +kernel), List.mem_of_getElem? (i := 884) (by decide +kernel)⟩
theorem lw_p30 : lw_okq (⟨"SqueezedCodeModel", "isSequence", "(II)Z"⟩, 31) := ⟨⟨by decide +kernel, by decide +kernel⟩, List.mem_of_getElem? (i := 844) (by decide +kernel), List.mem_of_getElem? (i := 887) (by decide +kernel), List.mem_of_getElem? (i := 888) (by decide +kernel)⟩
theorem lw_p31 : lw_okq (⟨"SqueezedCodeModel", "refers", "(I)I"⟩, 31) := ⟨⟨by decide +kernel, by decide +kernel⟩, List.mem_of_getElem? (i := 844) (by decide +kernel), List.mem_of_getElem? (i := 891) (by decide +kernel), List.mem_of_getElem? (i := 892) (by decide +kernel)⟩
def lw_privs_2 : List (MethodName × Nat) := [(⟨"SqueezedCode$Run", "useLine", "(I)V"⟩, 17), (⟨"SqueezedCode$Run", "placeOf", "(I)I"⟩, 17), (⟨"SqueezedCode$Run", "work", "(II)V"⟩, 17), (⟨"SqueezedCode$Run", "tellOut", "(I)V"⟩, 17), (⟨"SqueezedCode$Run", "turn", "(II)V"⟩, 17), (⟨"SqueezedCode$Run", "addressOf", "(I)I"⟩, 17), (⟨"SqueezedCode$Run", "jumpBySum", "()V"⟩, 17), (⟨"SqueezedCodeModel", "told", "(IIIIII)V"⟩, 31), (⟨"SqueezedCodeModel", "oneIs", "(II)V"⟩, 31), (⟨"SqueezedCodeModel", "begin", "()V"⟩, 31), (⟨"SqueezedCodeModel", "cover", "()V"⟩, 31), (⟨"SqueezedCodeModel", "coverWith", "(Z)I"⟩, 31), (⟨"SqueezedCodeModel", "matches", "(II)Z"⟩, 31), (⟨"SqueezedCodeModel", "entryAt", "(I)I"⟩, 31), (⟨"SqueezedCodeModel", "isSequence", "(II)Z"⟩, 31), (⟨"SqueezedCodeModel", "refers", "(I)I"⟩, 31)]
theorem lw_r2 : ∀ q ∈ lw_privs_2, lw_okq q := List.forall_mem_cons.mpr ⟨lw_p16, List.forall_mem_cons.mpr ⟨lw_p17, List.forall_mem_cons.mpr ⟨lw_p18, List.forall_mem_cons.mpr ⟨lw_p19, List.forall_mem_cons.mpr ⟨lw_p20, List.forall_mem_cons.mpr ⟨lw_p21, List.forall_mem_cons.mpr ⟨lw_p22, List.forall_mem_cons.mpr ⟨lw_p23, List.forall_mem_cons.mpr ⟨lw_p24, List.forall_mem_cons.mpr ⟨lw_p25, List.forall_mem_cons.mpr ⟨lw_p26, List.forall_mem_cons.mpr ⟨lw_p27, List.forall_mem_cons.mpr ⟨lw_p28, List.forall_mem_cons.mpr ⟨lw_p29, List.forall_mem_cons.mpr ⟨lw_p30, List.forall_mem_cons.mpr ⟨lw_p31, fun _ h => absurd h List.not_mem_nil⟩⟩⟩⟩⟩⟩⟩⟩⟩⟩⟩⟩⟩⟩⟩⟩
theorem lw_p32 : lw_okq (⟨"SqueezedCodeModel", "readOne", "(I)I"⟩, 31) := ⟨⟨by decide +kernel, by decide +kernel⟩, List.mem_of_getElem? (i := 844) (by decide +kernel), List.mem_of_getElem? (i := 1006) (by decide +kernel), List.mem_of_getElem? (i := 1007) (by decide +kernel)⟩
theorem lw_p33 : lw_okq (⟨"SqueezedCodeModel", "figureAt", "(I)I"⟩, 31) := ⟨⟨by decide +kernel, by decide +kernel⟩, List.mem_of_getElem? (i := 844) (by decide +kernel), List.mem_of_getElem? (i := 1010) (by decide +kernel), List.mem_of_getElem? (i := 1011) (by decide +kernel)⟩
theorem lw_p34 : lw_okq (⟨"SqueezedCodeModel", "refusal", "(III)I"⟩, 31) := ⟨⟨by decide +kernel, by decide +kernel⟩, List.mem_of_getElem? (i := 844) (by decide +kernel), List.mem_of_getElem? (i := 1028) (by decide +kernel), List.mem_of_getElem? (i := 1029) (by decide +kernel)⟩
theorem lw_p35 : lw_okq (⟨"SqueezedCodeModel", "isCode", "(I)Z"⟩, 31) := ⟨⟨by decide +kernel, by decide +kernel⟩, List.mem_of_getElem? (i := 844) (by decide +kernel), List.mem_of_getElem? (i := 1032) (by decide +kernel), List.mem_of_getElem? (i := 1033) (by decide +kernel)⟩
theorem lw_p36 : lw_okq (⟨"SqueezedCodeModel", "hasLike", "(III)Z"⟩, 31) := ⟨⟨by decide +kernel, by decide +kernel⟩, List.mem_of_getElem? (i := 844) (by decide +kernel), List.mem_of_getElem? (i := 1039) (by decide +kernel), List.mem_of_getElem? (i := 1040) (by decide +kernel)⟩
theorem lw_p37 : lw_okq (⟨"SqueezedCodeModel", "lays", "(IIII)V"⟩, 31) := ⟨⟨by decide +kernel, by decide +kernel⟩, List.mem_of_getElem? (i := 844) (by decide +kernel), List.mem_of_getElem? (i := 1043) (by decide +kernel), List.mem_of_getElem? (i := 1044) (by decide +kernel)⟩
theorem lw_p38 : lw_okq (⟨"SqueezedCodeModel", "note", "()V"⟩, 31) := ⟨⟨by decide +kernel, by decide +kernel⟩, List.mem_of_getElem? (i := 844) (by decide +kernel), List.mem_of_getElem? (i := 1047) (by decide +kernel), List.mem_of_getElem? (i := 1048) (by decide +kernel)⟩
theorem lw_p39 : lw_okq (⟨"SqueezedCodeModel", "isEntry", "(I)Z"⟩, 31) := ⟨⟨by decide +kernel, by decide +kernel⟩, List.mem_of_getElem? (i := 844) (by decide +kernel), List.mem_of_getElem? (i := 1055) (by decide +kernel), List.mem_of_getElem? (i := 1056) (by decide +kernel)⟩
theorem lw_p40 : lw_okq (⟨"SqueezedCodeModel", "gainOf", "(III)I"⟩, 31) := ⟨⟨by decide +kernel, by decide +kernel⟩, List.mem_of_getElem? (i := 844) (by decide +kernel), List.mem_of_getElem? (i := 1063) (by decide +kernel), List.mem_of_getElem? (i := 1064) (by decide +kernel)⟩
theorem lw_p41 : lw_okq (⟨"SqueezedCodeModel", "chooses", "()Z"⟩, 31) := ⟨⟨by decide +kernel, by decide +kernel⟩, List.mem_of_getElem? (i := 844) (by decide +kernel), List.mem_of_getElem? (i := 1073) (by decide +kernel), List.mem_of_getElem? (i := 1074) (by decide +kernel)⟩
theorem lw_p42 : lw_okq (⟨"SqueezedCodeModel", "headOf", "(I)I"⟩, 31) := ⟨⟨by decide +kernel, by decide +kernel⟩, List.mem_of_getElem? (i := 844) (by decide +kernel), List.mem_of_getElem? (i := 1102) (by decide +kernel), List.mem_of_getElem? (i := 1103) (by decide +kernel)⟩
theorem lw_p43 : lw_okq (⟨"SqueezedCodeModel", "tableSize", "()I"⟩, 31) := ⟨⟨by decide +kernel, by decide +kernel⟩, List.mem_of_getElem? (i := 844) (by decide +kernel), List.mem_of_getElem? (i := 1111) (by decide +kernel), List.mem_of_getElem? (i := 1112) (by decide +kernel)⟩
theorem lw_p44 : lw_okq (⟨"SqueezedCodeModel", "lines", "()I"⟩, 31) := ⟨⟨by decide +kernel, by decide +kernel⟩, List.mem_of_getElem? (i := 844) (by decide +kernel), List.mem_of_getElem? (i := 1115) (by decide +kernel), List.mem_of_getElem? (i := 1116) (by decide +kernel)⟩
theorem lw_p45 : lw_okq (⟨"SqueezedCodeModel", "references", "(II)I"⟩, 31) := ⟨⟨by decide +kernel, by decide +kernel⟩, List.mem_of_getElem? (i := 844) (by decide +kernel), List.mem_of_getElem? (i := 1119) (by decide +kernel), List.mem_of_getElem? (i := 1120) (by decide +kernel)⟩
theorem lw_p46 : lw_okq (⟨"SqueezedCodeModel", "nibbleOf", "(II)I"⟩, 31) := ⟨⟨by decide +kernel, by decide +kernel⟩, List.mem_of_getElem? (i := 844) (by decide +kernel), List.mem_of_getElem? (i := 1127) (by decide +kernel), List.mem_of_getElem? (i := 1128) (by decide +kernel)⟩
theorem lw_p47 : lw_okq (⟨"SqueezedCodeModel", "lineEnd", "(I)I"⟩, 31) := ⟨⟨by decide +kernel, by decide +kernel⟩, List.mem_of_getElem? (i := 844) (by decide +kernel), List.mem_of_getElem? (i := 1146) (by decide +kernel), List.mem_of_getElem? (i := 1147) (by decide +kernel)⟩
def lw_privs_3 : List (MethodName × Nat) := [(⟨"SqueezedCodeModel", "readOne", "(I)I"⟩, 31), (⟨"SqueezedCodeModel", "figureAt", "(I)I"⟩, 31), (⟨"SqueezedCodeModel", "refusal", "(III)I"⟩, 31), (⟨"SqueezedCodeModel", "isCode", "(I)Z"⟩, 31), (⟨"SqueezedCodeModel", "hasLike", "(III)Z"⟩, 31), (⟨"SqueezedCodeModel", "lays", "(IIII)V"⟩, 31), (⟨"SqueezedCodeModel", "note", "()V"⟩, 31), (⟨"SqueezedCodeModel", "isEntry", "(I)Z"⟩, 31), (⟨"SqueezedCodeModel", "gainOf", "(III)I"⟩, 31), (⟨"SqueezedCodeModel", "chooses", "()Z"⟩, 31), (⟨"SqueezedCodeModel", "headOf", "(I)I"⟩, 31), (⟨"SqueezedCodeModel", "tableSize", "()I"⟩, 31), (⟨"SqueezedCodeModel", "lines", "()I"⟩, 31), (⟨"SqueezedCodeModel", "references", "(II)I"⟩, 31), (⟨"SqueezedCodeModel", "nibbleOf", "(II)I"⟩, 31), (⟨"SqueezedCodeModel", "lineEnd", "(I)I"⟩, 31)]
theorem lw_r3 : ∀ q ∈ lw_privs_3, lw_okq q := List.forall_mem_cons.mpr ⟨lw_p32, List.forall_mem_cons.mpr ⟨lw_p33, List.forall_mem_cons.mpr ⟨lw_p34, List.forall_mem_cons.mpr ⟨lw_p35, List.forall_mem_cons.mpr ⟨lw_p36, List.forall_mem_cons.mpr ⟨lw_p37, List.forall_mem_cons.mpr ⟨lw_p38, List.forall_mem_cons.mpr ⟨lw_p39, List.forall_mem_cons.mpr ⟨lw_p40, List.forall_mem_cons.mpr ⟨lw_p41, List.forall_mem_cons.mpr ⟨lw_p42, List.forall_mem_cons.mpr ⟨lw_p43, List.forall_mem_cons.mpr ⟨lw_p44, List.forall_mem_cons.mpr ⟨lw_p45, List.forall_mem_cons.mpr ⟨lw_p46, List.forall_mem_cons.mpr ⟨lw_p47, fun _ h => absurd h List.not_mem_nil⟩⟩⟩⟩⟩⟩⟩⟩⟩⟩⟩⟩⟩⟩⟩⟩
theorem lw_p48 : lw_okq (⟨"SqueezedCodeModel", "goesOn", "()Z"⟩, 31) := ⟨⟨by decide +kernel, by decide +kernel⟩, List.mem_of_getElem? (i := 844) (by decide +kernel), List.mem_of_getElem? (i := 1163) (by decide +kernel), List.mem_of_getElem? (i := 1164) (by decide +kernel)⟩
theorem lw_p49 : lw_okq (⟨"SqueezedCodeModel", "oneStep", "()V"⟩, 31) := ⟨⟨by decide +kernel, by decide +kernel⟩, List.mem_of_getElem? (i := 844) (by decide +kernel), List.mem_of_getElem? (i := 1167) (by decide +kernel), List.mem_of_getElem? (i := 1168) (by decide +kernel)⟩
theorem lw_p50 : lw_okq (⟨"SqueezedCodeModel", "holdLine", "(I)V"⟩, 31) := ⟨⟨by decide +kernel, by decide +kernel⟩, List.mem_of_getElem? (i := 844) (by decide +kernel), List.mem_of_getElem? (i := 1171) (by decide +kernel), List.mem_of_getElem? (i := 1172) (by decide +kernel)⟩
theorem lw_p51 : lw_okq (⟨"SqueezedCodeModel", "simple", "(II)V"⟩, 31) := ⟨⟨by decide +kernel, by decide +kernel⟩, List.mem_of_getElem? (i := 844) (by decide +kernel), List.mem_of_getElem? (i := 1176) (by decide +kernel), List.mem_of_getElem? (i := 1177) (by decide +kernel)⟩
theorem lw_p52 : lw_okq (⟨"SqueezedCodeModel", "placeOf", "(I)I"⟩, 31) := ⟨⟨by decide +kernel, by decide +kernel⟩, List.mem_of_getElem? (i := 844) (by decide +kernel), List.mem_of_getElem? (i := 1181) (by decide +kernel), List.mem_of_getElem? (i := 1182) (by decide +kernel)⟩
theorem lw_p53 : lw_okq (⟨"SqueezedCodeModel", "byAddress", "()I"⟩, 31) := ⟨⟨by decide +kernel, by decide +kernel⟩, List.mem_of_getElem? (i := 844) (by decide +kernel), List.mem_of_getElem? (i := 1185) (by decide +kernel), List.mem_of_getElem? (i := 1186) (by decide +kernel)⟩
def lw_privs_4 : List (MethodName × Nat) := [(⟨"SqueezedCodeModel", "goesOn", "()Z"⟩, 31), (⟨"SqueezedCodeModel", "oneStep", "()V"⟩, 31), (⟨"SqueezedCodeModel", "holdLine", "(I)V"⟩, 31), (⟨"SqueezedCodeModel", "simple", "(II)V"⟩, 31), (⟨"SqueezedCodeModel", "placeOf", "(I)I"⟩, 31), (⟨"SqueezedCodeModel", "byAddress", "()I"⟩, 31)]
theorem lw_r4 : ∀ q ∈ lw_privs_4, lw_okq q := List.forall_mem_cons.mpr ⟨lw_p48, List.forall_mem_cons.mpr ⟨lw_p49, List.forall_mem_cons.mpr ⟨lw_p50, List.forall_mem_cons.mpr ⟨lw_p51, List.forall_mem_cons.mpr ⟨lw_p52, List.forall_mem_cons.mpr ⟨lw_p53, fun _ h => absurd h List.not_mem_nil⟩⟩⟩⟩⟩⟩
def lw_privs : List (MethodName × Nat) := lw_privs_1 ++ (lw_privs_2 ++ (lw_privs_3 ++ (lw_privs_4)))
def lw_tbl : List Cond := k2_sels lw_privs ++ tables_1
theorem lw_privs_ok : ∀ q ∈ lw_privs, lw_okq q := by
  show ∀ q ∈ lw_privs_1 ++ (lw_privs_2 ++ (lw_privs_3 ++ (lw_privs_4))), lw_okq q
  exact List.forall_mem_append.mpr ⟨lw_r1, List.forall_mem_append.mpr ⟨lw_r2, List.forall_mem_append.mpr ⟨lw_r3, lw_r4⟩⟩⟩
end
section
def RX0 : String := "SqueezedCode$Choice"
def TX0 : u_T := fun k => match k with
  | 0 => ("SqueezedCode$Choice", "layout", "LSqueezedCode$Layout;", true)
  | 1 => ("SqueezedCode$Choice", "setup", "LSqueezedCode$Setup;", true)
  | 2 => ("SqueezedCode$Choice", "first", "I", false)
  | 3 => ("SqueezedCode$Choice", "parts", "I", false)
  | 4 => ("SqueezedCode$Choice", "hole", "I", false)
  | _ => ("SqueezedCode$Choice", "greatest", "I", false)
def tyX0 : Nat → FieldType := fun k => match k with
  | 0 => .object "SqueezedCode$Layout"
  | 1 => .object "SqueezedCode$Setup"
  | 2 => .int
  | 3 => .int
  | 4 => .int
  | _ => .int
abbrev wsX00 : List Cond := u_ws RX0 TX0 6
theorem nmX0 : ∀ a, a < 6 → ∀ b, b < 6 → a ≠ b → (TX0 a).2.1 ≠ (TX0 b).2.1 := by decide +kernel
theorem tyX0_ok : ∀ k, k < 6 → parseFieldDescriptor (TX0 k).2.2.1 = some (tyX0 k) := by decide +kernel
abbrev cX0_init : ByteArray := prog_2_method_1_code
def yX0_init : MethodName := ⟨RX0, "<init>", "(LSqueezedCode$Layout;LSqueezedCode$Setup;)V"⟩
abbrev cX0_find : ByteArray := prog_2_method_2_code
def yX0_find : MethodName := ⟨RX0, "find", "()Z"⟩
abbrev cX0_tryAll : ByteArray := prog_2_method_3_code
def yX0_tryAll : MethodName := ⟨RX0, "tryAll", "(II)V"⟩
def RX1 : String := "SqueezedCode$Entry"
def TX1 : u_T := fun k => match k with
  | 0 => ("SqueezedCode$Entry", "kinds", "[I", true)
  | 1 => ("SqueezedCode$Entry", "values", "[I", true)
  | 2 => ("SqueezedCode$Entry", "parts", "I", false)
  | _ => ("SqueezedCode$Entry", "hole", "I", false)
def tyX1 : Nat → FieldType := fun k => match k with
  | 0 => .array .int
  | 1 => .array .int
  | 2 => .int
  | _ => .int
abbrev wsX10 : List Cond := u_ws RX1 TX1 4
theorem nmX1 : ∀ a, a < 4 → ∀ b, b < 4 → a ≠ b → (TX1 a).2.1 ≠ (TX1 b).2.1 := by decide +kernel
theorem tyX1_ok : ∀ k, k < 4 → parseFieldDescriptor (TX1 k).2.2.1 = some (tyX1 k) := by decide +kernel
abbrev cX1_init : ByteArray := prog_3_method_1_code
def yX1_init : MethodName := ⟨RX1, "<init>", "()V"⟩
abbrev cX1_take : ByteArray := prog_3_method_2_code
def yX1_take : MethodName := ⟨RX1, "take", "(LSqueezedCode$Program;III)V"⟩
abbrev cX1_copy : ByteArray := prog_3_method_3_code
def yX1_copy : MethodName := ⟨RX1, "copy", "(LSqueezedCode$Entry;)V"⟩
abbrev cX1_fits : ByteArray := prog_3_method_4_code
def yX1_fits : MethodName := ⟨RX1, "fits", "(LSqueezedCode$Program;I)Z"⟩
def RX2 : String := "SqueezedCode$History"
def TX2 : u_T := fun k => match k with
  | 0 => ("SqueezedCode$History", "kept", "[LSqueezedCode$Setup;", true)
  | _ => ("SqueezedCode$History", "depth", "I", false)
def tyX2 : Nat → FieldType := fun k => match k with
  | 0 => .array (.object "SqueezedCode$Setup")
  | _ => .int
abbrev wsX20 : List Cond := u_ws RX2 TX2 2
theorem nmX2 : ∀ a, a < 2 → ∀ b, b < 2 → a ≠ b → (TX2 a).2.1 ≠ (TX2 b).2.1 := by decide +kernel
theorem tyX2_ok : ∀ k, k < 2 → parseFieldDescriptor (TX2 k).2.2.1 = some (tyX2 k) := by decide +kernel
abbrev cX2_init : ByteArray := prog_4_method_1_code
def yX2_init : MethodName := ⟨RX2, "<init>", "()V"⟩
abbrev cX2_keep : ByteArray := prog_4_method_2_code
def yX2_keep : MethodName := ⟨RX2, "keep", "(LSqueezedCode$Setup;)V"⟩
abbrev cX2_giveBack : ByteArray := prog_4_method_3_code
def yX2_giveBack : MethodName := ⟨RX2, "giveBack", "(LSqueezedCode$Setup;)V"⟩
def RX3 : String := "SqueezedCode$Layout"
def TX3 : u_T := fun k => match k with
  | 0 => ("SqueezedCode$Layout", "program", "LSqueezedCode$Program;", true)
  | 1 => ("SqueezedCode$Layout", "setup", "LSqueezedCode$Setup;", true)
  | 2 => ("SqueezedCode$Layout", "reaches", "[I", true)
  | 3 => ("SqueezedCode$Layout", "shortest", "[[I", true)
  | 4 => ("SqueezedCode$Layout", "fewest", "[I", true)
  | 5 => ("SqueezedCode$Layout", "picks", "[I", true)
  | 6 => ("SqueezedCode$Layout", "trial", "[I", true)
  | 7 => ("SqueezedCode$Layout", "candidate", "LSqueezedCode$Entry;", true)
  | 8 => ("SqueezedCode$Layout", "owners", "[I", true)
  | 9 => ("SqueezedCode$Layout", "places", "[I", true)
  | 10 => ("SqueezedCode$Layout", "addresses", "[I", true)
  | 11 => ("SqueezedCode$Layout", "ends", "[I", true)
  | 12 => ("SqueezedCode$Layout", "nibbles", "[I", true)
  | 13 => ("SqueezedCode$Layout", "length", "I", false)
  | 14 => ("SqueezedCode$Layout", "lines", "I", false)
  | _ => ("SqueezedCode$Layout", "lineShift", "I", false)
def tyX3 : Nat → FieldType := fun k => match k with
  | 0 => .object "SqueezedCode$Program"
  | 1 => .object "SqueezedCode$Setup"
  | 2 => .array .int
  | 3 => .array (.array .int)
  | 4 => .array .int
  | 5 => .array .int
  | 6 => .array .int
  | 7 => .object "SqueezedCode$Entry"
  | 8 => .array .int
  | 9 => .array .int
  | 10 => .array .int
  | 11 => .array .int
  | 12 => .array .int
  | 13 => .int
  | 14 => .int
  | _ => .int
abbrev wsX30 : List Cond := u_ws RX3 TX3 16
theorem nmX3 : ∀ a, a < 16 → ∀ b, b < 16 → a ≠ b → (TX3 a).2.1 ≠ (TX3 b).2.1 := by decide +kernel
theorem tyX3_ok : ∀ k, k < 16 → parseFieldDescriptor (TX3 k).2.2.1 = some (tyX3 k) := by decide +kernel
abbrev cX3_init : ByteArray := prog_5_method_1_code
def yX3_init : MethodName := ⟨RX3, "<init>", "(LSqueezedCode$Program;LSqueezedCode$Setup;)V"⟩
abbrev cX3_reckon : ByteArray := prog_5_method_2_code
def yX3_reckon : MethodName := ⟨RX3, "reckon", "()V"⟩
abbrev cX3_measureReaches : ByteArray := prog_5_method_3_code
def yX3_measureReaches : MethodName := ⟨RX3, "measureReaches", "()V"⟩
abbrev cX3_leadsOn : ByteArray := prog_5_method_4_code
def yX3_leadsOn : MethodName := ⟨RX3, "leadsOn", "(I)Z"⟩
abbrev cX3_findBest : ByteArray := prog_5_method_5_code
def yX3_findBest : MethodName := ⟨RX3, "findBest", "()V"⟩
abbrev cX3_offer : ByteArray := prog_5_method_6_code
def yX3_offer : MethodName := ⟨RX3, "offer", "(II)V"⟩
abbrev cX3_placeAll : ByteArray := prog_5_method_7_code
def yX3_placeAll : MethodName := ⟨RX3, "placeAll", "()V"⟩
abbrev cX3_layNibbles : ByteArray := prog_5_method_8_code
def yX3_layNibbles : MethodName := ⟨RX3, "layNibbles", "()V"⟩
abbrev cX3_layReference : ByteArray := prog_5_method_9_code
def yX3_layReference : MethodName := ⟨RX3, "layReference", "(I)V"⟩
abbrev cX3_layAlone : ByteArray := prog_5_method_10_code
def yX3_layAlone : MethodName := ⟨RX3, "layAlone", "(I)V"⟩
abbrev cX3_isSequence : ByteArray := prog_5_method_11_code
def yX3_isSequence : MethodName := ⟨RX3, "isSequence", "(II)Z"⟩
abbrev cX3_matches : ByteArray := prog_5_method_12_code
def yX3_matches : MethodName := ⟨RX3, "matches", "(LSqueezedCode$Entry;I)Z"⟩
abbrev cX3_gainOf : ByteArray := prog_5_method_13_code
def yX3_gainOf : MethodName := ⟨RX3, "gainOf", "(III)I"⟩
abbrev cX3_fewestWithCandidate : ByteArray := prog_5_method_14_code
def yX3_fewestWithCandidate : MethodName := ⟨RX3, "fewestWithCandidate", "()I"⟩
abbrev cX3_mostGainOf : ByteArray := prog_5_method_15_code
def yX3_mostGainOf : MethodName := ⟨RX3, "mostGainOf", "(III)I"⟩
abbrev cX3_matchesOf : ByteArray := prog_5_method_16_code
def yX3_matchesOf : MethodName := ⟨RX3, "matchesOf", "(LSqueezedCode$Entry;)I"⟩
abbrev cX3_referencesTo : ByteArray := prog_5_method_17_code
def yX3_referencesTo : MethodName := ⟨RX3, "referencesTo", "(I)I"⟩
abbrev cX3_references : ByteArray := prog_5_method_18_code
def yX3_references : MethodName := ⟨RX3, "references", "(II)I"⟩
abbrev cX3_instructionOf : ByteArray := prog_5_method_19_code
def yX3_instructionOf : MethodName := ⟨RX3, "instructionOf", "(I)I"⟩
abbrev cX3_lineOf : ByteArray := prog_5_method_20_code
def yX3_lineOf : MethodName := ⟨RX3, "lineOf", "(I)I"⟩
abbrev cX3_firstOf : ByteArray := prog_5_method_21_code
def yX3_firstOf : MethodName := ⟨RX3, "firstOf", "(I)I"⟩
abbrev cX3_lineAddress : ByteArray := prog_5_method_22_code
def yX3_lineAddress : MethodName := ⟨RX3, "lineAddress", "(I)I"⟩
abbrev cX3_lineNibbles : ByteArray := prog_5_method_23_code
def yX3_lineNibbles : MethodName := ⟨RX3, "lineNibbles", "(I)I"⟩
def RX4 : String := "SqueezedCode$Program"
def TX4 : u_T := fun k => match k with
  | 0 => ("SqueezedCode$Program", "kinds", "[I", true)
  | 1 => ("SqueezedCode$Program", "values", "[I", true)
  | 2 => ("SqueezedCode$Program", "targets", "[Z", true)
  | _ => ("SqueezedCode$Program", "length", "I", false)
def tyX4 : Nat → FieldType := fun k => match k with
  | 0 => .array .int
  | 1 => .array .int
  | 2 => .array .boolean
  | _ => .int
abbrev wsX40 : List Cond := u_ws RX4 TX4 4
theorem nmX4 : ∀ a, a < 4 → ∀ b, b < 4 → a ≠ b → (TX4 a).2.1 ≠ (TX4 b).2.1 := by decide +kernel
theorem tyX4_ok : ∀ k, k < 4 → parseFieldDescriptor (TX4 k).2.2.1 = some (tyX4 k) := by decide +kernel
abbrev cX4_init : ByteArray := prog_6_method_1_code
def yX4_init : MethodName := ⟨RX4, "<init>", "()V"⟩
abbrev cX4_take : ByteArray := prog_6_method_2_code
def yX4_take : MethodName := ⟨RX4, "take", "(LSqueezedCode$Text;)V"⟩
abbrev cX4_has : ByteArray := prog_6_method_3_code
def yX4_has : MethodName := ⟨RX4, "has", "(I)Z"⟩
abbrev cX4_targetCount : ByteArray := prog_6_method_4_code
def yX4_targetCount : MethodName := ⟨RX4, "targetCount", "()I"⟩
abbrev cX4_plainNibbles : ByteArray := prog_6_method_5_code
def yX4_plainNibbles : MethodName := ⟨RX4, "plainNibbles", "()I"⟩
def RX5 : String := "SqueezedCode$Run"
def TX5 : u_T := fun k => match k with
  | 0 => ("SqueezedCode$Run", "program", "LSqueezedCode$Program;", true)
  | 1 => ("SqueezedCode$Run", "layout", "LSqueezedCode$Layout;", true)
  | 2 => ("SqueezedCode$Run", "cells", "[I", true)
  | 3 => ("SqueezedCode$Run", "told", "[I", true)
  | 4 => ("SqueezedCode$Run", "heldLines", "[I", true)
  | 5 => ("SqueezedCode$Run", "exists", "Z", false)
  | 6 => ("SqueezedCode$Run", "ended", "Z", false)
  | 7 => ("SqueezedCode$Run", "squeezed", "Z", false)
  | 8 => ("SqueezedCode$Run", "trapped", "Z", false)
  | 9 => ("SqueezedCode$Run", "next", "I", false)
  | 10 => ("SqueezedCode$Run", "sum", "I", false)
  | 11 => ("SqueezedCode$Run", "steps", "I", false)
  | 12 => ("SqueezedCode$Run", "toldCount", "I", false)
  | 13 => ("SqueezedCode$Run", "mostHeld", "I", false)
  | 14 => ("SqueezedCode$Run", "heldCount", "I", false)
  | 15 => ("SqueezedCode$Run", "misses", "I", false)
  | _ => ("SqueezedCode$Run", "decoded", "I", false)
def tyX5 : Nat → FieldType := fun k => match k with
  | 0 => .object "SqueezedCode$Program"
  | 1 => .object "SqueezedCode$Layout"
  | 2 => .array .int
  | 3 => .array .int
  | 4 => .array .int
  | 5 => .boolean
  | 6 => .boolean
  | 7 => .boolean
  | 8 => .boolean
  | 9 => .int
  | 10 => .int
  | 11 => .int
  | 12 => .int
  | 13 => .int
  | 14 => .int
  | 15 => .int
  | _ => .int
abbrev wsX50 : List Cond := u_ws RX5 TX5 17
theorem nmX5 : ∀ a, a < 17 → ∀ b, b < 17 → a ≠ b → (TX5 a).2.1 ≠ (TX5 b).2.1 := by decide +kernel
theorem tyX5_ok : ∀ k, k < 17 → parseFieldDescriptor (TX5 k).2.2.1 = some (tyX5 k) := by decide +kernel
abbrev cX5_init : ByteArray := prog_7_method_1_code
def yX5_init : MethodName := ⟨RX5, "<init>", "(LSqueezedCode$Program;LSqueezedCode$Layout;)V"⟩
abbrev cX5_begin : ByteArray := prog_7_method_2_code
def yX5_begin : MethodName := ⟨RX5, "begin", "(ZI)V"⟩
abbrev cX5_end : ByteArray := prog_7_method_3_code
def yX5_end : MethodName := ⟨RX5, "end", "()V"⟩
abbrev cX5_go : ByteArray := prog_7_method_4_code
def yX5_go : MethodName := ⟨RX5, "go", "(I)I"⟩
abbrev cX5_takeStep : ByteArray := prog_7_method_5_code
def yX5_takeStep : MethodName := ⟨RX5, "takeStep", "()V"⟩
abbrev cX5_work : ByteArray := prog_7_method_6_code
def yX5_work : MethodName := ⟨RX5, "work", "(II)V"⟩
abbrev cX5_tellOut : ByteArray := prog_7_method_7_code
def yX5_tellOut : MethodName := ⟨RX5, "tellOut", "(I)V"⟩
abbrev cX5_turn : ByteArray := prog_7_method_8_code
def yX5_turn : MethodName := ⟨RX5, "turn", "(II)V"⟩
abbrev cX5_addressOf : ByteArray := prog_7_method_9_code
def yX5_addressOf : MethodName := ⟨RX5, "addressOf", "(I)I"⟩
abbrev cX5_jumpBySum : ByteArray := prog_7_method_10_code
def yX5_jumpBySum : MethodName := ⟨RX5, "jumpBySum", "()V"⟩
abbrev cX5_useLine : ByteArray := prog_7_method_11_code
def yX5_useLine : MethodName := ⟨RX5, "useLine", "(I)V"⟩
abbrev cX5_placeOf : ByteArray := prog_7_method_12_code
def yX5_placeOf : MethodName := ⟨RX5, "placeOf", "(I)I"⟩
abbrev cX5_tell : ByteArray := prog_7_method_13_code
def yX5_tell : MethodName := ⟨RX5, "tell", "(I)I"⟩
def RX6 : String := "SqueezedCode$Setup"
def TX6 : u_T := fun k => match k with
  | 0 => ("SqueezedCode$Setup", "table", "[LSqueezedCode$Entry;", true)
  | 1 => ("SqueezedCode$Setup", "entries", "I", false)
  | 2 => ("SqueezedCode$Setup", "lineWidth", "I", false)
  | _ => ("SqueezedCode$Setup", "mostHeld", "I", false)
def tyX6 : Nat → FieldType := fun k => match k with
  | 0 => .array (.object "SqueezedCode$Entry")
  | 1 => .int
  | 2 => .int
  | _ => .int
abbrev wsX60 : List Cond := u_ws RX6 TX6 4
theorem nmX6 : ∀ a, a < 4 → ∀ b, b < 4 → a ≠ b → (TX6 a).2.1 ≠ (TX6 b).2.1 := by decide +kernel
theorem tyX6_ok : ∀ k, k < 4 → parseFieldDescriptor (TX6 k).2.2.1 = some (tyX6 k) := by decide +kernel
abbrev cX6_init : ByteArray := prog_8_method_1_code
def yX6_init : MethodName := ⟨RX6, "<init>", "()V"⟩
abbrev cX6_copy : ByteArray := prog_8_method_2_code
def yX6_copy : MethodName := ⟨RX6, "copy", "(LSqueezedCode$Setup;)V"⟩
abbrev cX6_has : ByteArray := prog_8_method_3_code
def yX6_has : MethodName := ⟨RX6, "has", "(I)Z"⟩
abbrev cX6_append : ByteArray := prog_8_method_4_code
def yX6_append : MethodName := ⟨RX6, "append", "(LSqueezedCode$Program;III)V"⟩
abbrev cX6_remove : ByteArray := prog_8_method_5_code
def yX6_remove : MethodName := ⟨RX6, "remove", "(I)V"⟩
abbrev cX6_hasAlike : ByteArray := prog_8_method_6_code
def yX6_hasAlike : MethodName := ⟨RX6, "hasAlike", "(LSqueezedCode$Program;III)Z"⟩
abbrev cX6_tableNibbles : ByteArray := prog_8_method_7_code
def yX6_tableNibbles : MethodName := ⟨RX6, "tableNibbles", "()I"⟩
def RX7 : String := "SqueezedCode$Text"
def TX7 : u_T := fun k => match k with
  | 0 => ("SqueezedCode$Text", "letters", "[C", true)
  | 1 => ("SqueezedCode$Text", "starts", "[I", true)
  | 2 => ("SqueezedCode$Text", "length", "I", false)
  | _ => ("SqueezedCode$Text", "instructions", "I", false)
def tyX7 : Nat → FieldType := fun k => match k with
  | 0 => .array .char
  | 1 => .array .int
  | 2 => .int
  | _ => .int
abbrev wsX70 : List Cond := u_ws RX7 TX7 4
theorem nmX7 : ∀ a, a < 4 → ∀ b, b < 4 → a ≠ b → (TX7 a).2.1 ≠ (TX7 b).2.1 := by decide +kernel
theorem tyX7_ok : ∀ k, k < 4 → parseFieldDescriptor (TX7 k).2.2.1 = some (tyX7 k) := by decide +kernel
abbrev cX7_init : ByteArray := prog_9_method_1_code
def yX7_init : MethodName := ⟨RX7, "<init>", "()V"⟩
abbrev cX7_append : ByteArray := prog_9_method_2_code
def yX7_append : MethodName := ⟨RX7, "append", "(C)I"⟩
abbrev cX7_empty : ByteArray := prog_9_method_3_code
def yX7_empty : MethodName := ⟨RX7, "empty", "()I"⟩
abbrev cX7_findFault : ByteArray := prog_9_method_4_code
def yX7_findFault : MethodName := ⟨RX7, "findFault", "()I"⟩
abbrev cX7_findLostTarget : ByteArray := prog_9_method_5_code
def yX7_findLostTarget : MethodName := ⟨RX7, "findLostTarget", "()I"⟩
abbrev cX7_widthAt : ByteArray := prog_9_method_6_code
def yX7_widthAt : MethodName := ⟨RX7, "widthAt", "(I)I"⟩
abbrev cX7_kindOf : ByteArray := prog_9_method_7_code
def yX7_kindOf : MethodName := ⟨RX7, "kindOf", "(I)I"⟩
abbrev cX7_valueOf : ByteArray := prog_9_method_8_code
def yX7_valueOf : MethodName := ⟨RX7, "valueOf", "(I)I"⟩
def RX8 : String := "SqueezedCode"
def TX8 : u_T := fun k => match k with
  | 0 => ("SqueezedCode", "text", "LSqueezedCode$Text;", true)
  | 1 => ("SqueezedCode", "program", "LSqueezedCode$Program;", true)
  | 2 => ("SqueezedCode", "setup", "LSqueezedCode$Setup;", true)
  | 3 => ("SqueezedCode", "history", "LSqueezedCode$History;", true)
  | 4 => ("SqueezedCode", "layout", "LSqueezedCode$Layout;", true)
  | 5 => ("SqueezedCode", "choice", "LSqueezedCode$Choice;", true)
  | _ => ("SqueezedCode", "run", "LSqueezedCode$Run;", true)
def tyX8 : Nat → FieldType := fun k => match k with
  | 0 => .object "SqueezedCode$Text"
  | 1 => .object "SqueezedCode$Program"
  | 2 => .object "SqueezedCode$Setup"
  | 3 => .object "SqueezedCode$History"
  | 4 => .object "SqueezedCode$Layout"
  | 5 => .object "SqueezedCode$Choice"
  | _ => .object "SqueezedCode$Run"
abbrev wsX80 : List Cond := u_ws RX8 TX8 7
theorem nmX8 : ∀ a, a < 7 → ∀ b, b < 7 → a ≠ b → (TX8 a).2.1 ≠ (TX8 b).2.1 := by decide +kernel
theorem tyX8_ok : ∀ k, k < 7 → parseFieldDescriptor (TX8 k).2.2.1 = some (tyX8 k) := by decide +kernel
abbrev cX8_init : ByteArray := prog_1_method_1_code
def yX8_init : MethodName := ⟨RX8, "<init>", "()V"⟩
abbrev cX8_write : ByteArray := prog_1_method_2_code
def yX8_write : MethodName := ⟨RX8, "write", "(I)I"⟩
abbrev cX8_wipe : ByteArray := prog_1_method_3_code
def yX8_wipe : MethodName := ⟨RX8, "wipe", "()I"⟩
abbrev cX8_fault : ByteArray := prog_1_method_4_code
def yX8_fault : MethodName := ⟨RX8, "fault", "()I"⟩
abbrev cX8_lay : ByteArray := prog_1_method_5_code
def yX8_lay : MethodName := ⟨RX8, "lay", "()I"⟩
abbrev cX8_code : ByteArray := prog_1_method_6_code
def yX8_code : MethodName := ⟨RX8, "code", "(II)I"⟩
abbrev cX8_add : ByteArray := prog_1_method_7_code
def yX8_add : MethodName := ⟨RX8, "add", "(III)I"⟩
abbrev cX8_drop : ByteArray := prog_1_method_8_code
def yX8_drop : MethodName := ⟨RX8, "drop", "(I)I"⟩
abbrev cX8_gain : ByteArray := prog_1_method_9_code
def yX8_gain : MethodName := ⟨RX8, "gain", "(III)I"⟩
abbrev cX8_choose : ByteArray := prog_1_method_10_code
def yX8_choose : MethodName := ⟨RX8, "choose", "(I)I"⟩
abbrev cX8_entry : ByteArray := prog_1_method_11_code
def yX8_entry : MethodName := ⟨RX8, "entry", "(II)I"⟩
abbrev cX8_part : ByteArray := prog_1_method_12_code
def yX8_part : MethodName := ⟨RX8, "part", "(III)I"⟩
abbrev cX8_wide : ByteArray := prog_1_method_13_code
def yX8_wide : MethodName := ⟨RX8, "wide", "(I)I"⟩
abbrev cX8_hold : ByteArray := prog_1_method_14_code
def yX8_hold : MethodName := ⟨RX8, "hold", "(I)I"⟩
abbrev cX8_undo : ByteArray := prog_1_method_15_code
def yX8_undo : MethodName := ⟨RX8, "undo", "()I"⟩
abbrev cX8_size : ByteArray := prog_1_method_16_code
def yX8_size : MethodName := ⟨RX8, "size", "(I)I"⟩
abbrev cX8_nibble : ByteArray := prog_1_method_17_code
def yX8_nibble : MethodName := ⟨RX8, "nibble", "(I)I"⟩
abbrev cX8_address : ByteArray := prog_1_method_18_code
def yX8_address : MethodName := ⟨RX8, "address", "(I)I"⟩
abbrev cX8_at : ByteArray := prog_1_method_19_code
def yX8_at : MethodName := ⟨RX8, "at", "(I)I"⟩
abbrev cX8_line : ByteArray := prog_1_method_20_code
def yX8_line : MethodName := ⟨RX8, "line", "(II)I"⟩
abbrev cX8_seek : ByteArray := prog_1_method_21_code
def yX8_seek : MethodName := ⟨RX8, "seek", "(I)I"⟩
abbrev cX8_start : ByteArray := prog_1_method_22_code
def yX8_start : MethodName := ⟨RX8, "start", "(I)I"⟩
abbrev cX8_step : ByteArray := prog_1_method_23_code
def yX8_step : MethodName := ⟨RX8, "step", "(I)I"⟩
abbrev cX8_now : ByteArray := prog_1_method_24_code
def yX8_now : MethodName := ⟨RX8, "now", "(I)I"⟩
abbrev cX8_held : ByteArray := prog_1_method_25_code
def yX8_held : MethodName := ⟨RX8, "held", "(I)I"⟩
abbrev cX8_cell : ByteArray := prog_1_method_26_code
def yX8_cell : MethodName := ⟨RX8, "cell", "(I)I"⟩
abbrev cX8_out : ByteArray := prog_1_method_27_code
def yX8_out : MethodName := ⟨RX8, "out", "(I)I"⟩
abbrev cX8_count : ByteArray := prog_1_method_28_code
def yX8_count : MethodName := ⟨RX8, "count", "(I)I"⟩
abbrev cX8_settle : ByteArray := prog_1_method_29_code
def yX8_settle : MethodName := ⟨RX8, "settle", "()V"⟩
abbrev cX8_hindranceTo : ByteArray := prog_1_method_30_code
def yX8_hindranceTo : MethodName := ⟨RX8, "hindranceTo", "(III)I"⟩
abbrev cX8_letterOf : ByteArray := prog_1_method_31_code
def yX8_letterOf : MethodName := ⟨RX8, "letterOf", "(I)I"⟩
abbrev cX8_isSimple : ByteArray := prog_1_method_32_code
def yX8_isSimple : MethodName := ⟨RX8, "isSimple", "(I)Z"⟩
abbrev cX8_hasTarget : ByteArray := prog_1_method_33_code
def yX8_hasTarget : MethodName := ⟨RX8, "hasTarget", "(I)Z"⟩
abbrev cX8_nibblesOf : ByteArray := prog_1_method_34_code
def yX8_nibblesOf : MethodName := ⟨RX8, "nibblesOf", "(I)I"⟩
abbrev cX8_referenceNibbles : ByteArray := prog_1_method_35_code
def yX8_referenceNibbles : MethodName := ⟨RX8, "referenceNibbles", "(I)I"⟩
abbrev cX8_entryNibbles : ByteArray := prog_1_method_36_code
def yX8_entryNibbles : MethodName := ⟨RX8, "entryNibbles", "(I)I"⟩
def RX9 : String := "SqueezedCodeModel"
def TX9 : u_T := fun k => match k with
  | 0 => ("SqueezedCodeModel", "length", "I", false)
  | 1 => ("SqueezedCodeModel", "text", "[I", true)
  | 2 => ("SqueezedCodeModel", "readMany", "I", false)
  | 3 => ("SqueezedCodeModel", "readLetter", "[I", true)
  | 4 => ("SqueezedCodeModel", "readNumber", "[I", true)
  | 5 => ("SqueezedCodeModel", "many", "I", false)
  | 6 => ("SqueezedCodeModel", "letter", "[I", true)
  | 7 => ("SqueezedCodeModel", "number", "[I", true)
  | 8 => ("SqueezedCodeModel", "isTarget", "[I", true)
  | 9 => ("SqueezedCodeModel", "table", "[I", true)
  | 10 => ("SqueezedCodeModel", "before", "[I", true)
  | 11 => ("SqueezedCodeModel", "undoMany", "I", false)
  | 12 => ("SqueezedCodeModel", "rest", "[I", true)
  | 13 => ("SqueezedCodeModel", "pick", "[I", true)
  | 14 => ("SqueezedCodeModel", "place", "[I", true)
  | 15 => ("SqueezedCodeModel", "isRun", "Z", false)
  | 16 => ("SqueezedCodeModel", "kind", "I", false)
  | 17 => ("SqueezedCodeModel", "next", "I", false)
  | 18 => ("SqueezedCodeModel", "sum", "I", false)
  | 19 => ("SqueezedCodeModel", "steps", "I", false)
  | 20 => ("SqueezedCodeModel", "outs", "I", false)
  | 21 => ("SqueezedCodeModel", "trapped", "I", false)
  | 22 => ("SqueezedCodeModel", "misses", "I", false)
  | 23 => ("SqueezedCodeModel", "decoded", "I", false)
  | 24 => ("SqueezedCodeModel", "cells", "[I", true)
  | 25 => ("SqueezedCodeModel", "out", "[I", true)
  | 26 => ("SqueezedCodeModel", "holds", "I", false)
  | 27 => ("SqueezedCodeModel", "hold", "[I", true)
  | 28 => ("SqueezedCodeModel", "choseAt", "I", false)
  | 29 => ("SqueezedCodeModel", "choseMany", "I", false)
  | _ => ("SqueezedCodeModel", "choseHole", "I", false)
def tyX9 : Nat → FieldType := fun k => match k with
  | 0 => .int
  | 1 => .array .int
  | 2 => .int
  | 3 => .array .int
  | 4 => .array .int
  | 5 => .int
  | 6 => .array .int
  | 7 => .array .int
  | 8 => .array .int
  | 9 => .array .int
  | 10 => .array .int
  | 11 => .int
  | 12 => .array .int
  | 13 => .array .int
  | 14 => .array .int
  | 15 => .boolean
  | 16 => .int
  | 17 => .int
  | 18 => .int
  | 19 => .int
  | 20 => .int
  | 21 => .int
  | 22 => .int
  | 23 => .int
  | 24 => .array .int
  | 25 => .array .int
  | 26 => .int
  | 27 => .array .int
  | 28 => .int
  | 29 => .int
  | _ => .int
abbrev wsX90 : List Cond := u_ws RX9 TX9 31
theorem nmX9 : ∀ a, a < 31 → ∀ b, b < 31 → a ≠ b → (TX9 a).2.1 ≠ (TX9 b).2.1 := by decide +kernel
theorem tyX9_ok : ∀ k, k < 31 → parseFieldDescriptor (TX9 k).2.2.1 = some (tyX9 k) := by decide +kernel
abbrev cX9_init : ByteArray := prog_11_method_1_code
def yX9_init : MethodName := ⟨RX9, "<init>", "()V"⟩
abbrev cX9_in : ByteArray := prog_11_method_2_code
def yX9_in : MethodName := ⟨RX9, "in", "(JJJ)Z"⟩
abbrev cX9_told : ByteArray := prog_11_method_3_code
def yX9_told : MethodName := ⟨RX9, "told", "(IIIIII)V"⟩
abbrev cX9_oneIs : ByteArray := prog_11_method_4_code
def yX9_oneIs : MethodName := ⟨RX9, "oneIs", "(II)V"⟩
abbrev cX9_write : ByteArray := prog_11_method_5_code
def yX9_write : MethodName := ⟨RX9, "write", "(I)I"⟩
abbrev cX9_wipe : ByteArray := prog_11_method_6_code
def yX9_wipe : MethodName := ⟨RX9, "wipe", "()I"⟩
abbrev cX9_isSimple : ByteArray := prog_11_method_7_code
def yX9_isSimple : MethodName := ⟨RX9, "isSimple", "(I)Z"⟩
abbrev cX9_hasPlace : ByteArray := prog_11_method_8_code
def yX9_hasPlace : MethodName := ⟨RX9, "hasPlace", "(I)Z"⟩
abbrev cX9_figureAt : ByteArray := prog_11_method_9_code
def yX9_figureAt : MethodName := ⟨RX9, "figureAt", "(I)I"⟩
abbrev cX9_readOne : ByteArray := prog_11_method_10_code
def yX9_readOne : MethodName := ⟨RX9, "readOne", "(I)I"⟩
abbrev cX9_lettersOf : ByteArray := prog_11_method_11_code
def yX9_lettersOf : MethodName := ⟨RX9, "lettersOf", "(I)I"⟩
abbrev cX9_fault : ByteArray := prog_11_method_12_code
def yX9_fault : MethodName := ⟨RX9, "fault", "()I"⟩
abbrev cX9_lay : ByteArray := prog_11_method_13_code
def yX9_lay : MethodName := ⟨RX9, "lay", "()I"⟩
abbrev cX9_begin : ByteArray := prog_11_method_14_code
def yX9_begin : MethodName := ⟨RX9, "begin", "()V"⟩
abbrev cX9_isCode : ByteArray := prog_11_method_15_code
def yX9_isCode : MethodName := ⟨RX9, "isCode", "(I)Z"⟩
abbrev cX9_isEntry : ByteArray := prog_11_method_16_code
def yX9_isEntry : MethodName := ⟨RX9, "isEntry", "(I)Z"⟩
abbrev cX9_isSequence : ByteArray := prog_11_method_17_code
def yX9_isSequence : MethodName := ⟨RX9, "isSequence", "(II)Z"⟩
abbrev cX9_entryAt : ByteArray := prog_11_method_18_code
def yX9_entryAt : MethodName := ⟨RX9, "entryAt", "(I)I"⟩
abbrev cX9_matches : ByteArray := prog_11_method_19_code
def yX9_matches : MethodName := ⟨RX9, "matches", "(II)Z"⟩
abbrev cX9_lays : ByteArray := prog_11_method_20_code
def yX9_lays : MethodName := ⟨RX9, "lays", "(IIII)V"⟩
abbrev cX9_hasLike : ByteArray := prog_11_method_21_code
def yX9_hasLike : MethodName := ⟨RX9, "hasLike", "(III)Z"⟩
abbrev cX9_refers : ByteArray := prog_11_method_22_code
def yX9_refers : MethodName := ⟨RX9, "refers", "(I)I"⟩
abbrev cX9_own : ByteArray := prog_11_method_23_code
def yX9_own : MethodName := ⟨RX9, "own", "(I)I"⟩
abbrev cX9_coverWith : ByteArray := prog_11_method_24_code
def yX9_coverWith : MethodName := ⟨RX9, "coverWith", "(Z)I"⟩
abbrev cX9_tableSize : ByteArray := prog_11_method_25_code
def yX9_tableSize : MethodName := ⟨RX9, "tableSize", "()I"⟩
abbrev cX9_lines : ByteArray := prog_11_method_26_code
def yX9_lines : MethodName := ⟨RX9, "lines", "()I"⟩
abbrev cX9_cover : ByteArray := prog_11_method_27_code
def yX9_cover : MethodName := ⟨RX9, "cover", "()V"⟩
abbrev cX9_gainOf : ByteArray := prog_11_method_28_code
def yX9_gainOf : MethodName := ⟨RX9, "gainOf", "(III)I"⟩
abbrev cX9_note : ByteArray := prog_11_method_29_code
def yX9_note : MethodName := ⟨RX9, "note", "()V"⟩
abbrev cX9_refusal : ByteArray := prog_11_method_30_code
def yX9_refusal : MethodName := ⟨RX9, "refusal", "(III)I"⟩
abbrev cX9_add : ByteArray := prog_11_method_31_code
def yX9_add : MethodName := ⟨RX9, "add", "(III)I"⟩
abbrev cX9_drop : ByteArray := prog_11_method_32_code
def yX9_drop : MethodName := ⟨RX9, "drop", "(I)I"⟩
abbrev cX9_gain : ByteArray := prog_11_method_33_code
def yX9_gain : MethodName := ⟨RX9, "gain", "(III)I"⟩
abbrev cX9_chooses : ByteArray := prog_11_method_34_code
def yX9_chooses : MethodName := ⟨RX9, "chooses", "()Z"⟩
abbrev cX9_choose : ByteArray := prog_11_method_35_code
def yX9_choose : MethodName := ⟨RX9, "choose", "(I)I"⟩
abbrev cX9_entry : ByteArray := prog_11_method_36_code
def yX9_entry : MethodName := ⟨RX9, "entry", "(II)I"⟩
abbrev cX9_part : ByteArray := prog_11_method_37_code
def yX9_part : MethodName := ⟨RX9, "part", "(III)I"⟩
abbrev cX9_wide : ByteArray := prog_11_method_38_code
def yX9_wide : MethodName := ⟨RX9, "wide", "(I)I"⟩
abbrev cX9_hold : ByteArray := prog_11_method_39_code
def yX9_hold : MethodName := ⟨RX9, "hold", "(I)I"⟩
abbrev cX9_undo : ByteArray := prog_11_method_40_code
def yX9_undo : MethodName := ⟨RX9, "undo", "()I"⟩
abbrev cX9_code : ByteArray := prog_11_method_41_code
def yX9_code : MethodName := ⟨RX9, "code", "(II)I"⟩
abbrev cX9_headOf : ByteArray := prog_11_method_42_code
def yX9_headOf : MethodName := ⟨RX9, "headOf", "(I)I"⟩
abbrev cX9_references : ByteArray := prog_11_method_43_code
def yX9_references : MethodName := ⟨RX9, "references", "(II)I"⟩
abbrev cX9_size : ByteArray := prog_11_method_44_code
def yX9_size : MethodName := ⟨RX9, "size", "(I)I"⟩
abbrev cX9_kindOf : ByteArray := prog_11_method_45_code
def yX9_kindOf : MethodName := ⟨RX9, "kindOf", "(I)I"⟩
abbrev cX9_nibbleOf : ByteArray := prog_11_method_46_code
def yX9_nibbleOf : MethodName := ⟨RX9, "nibbleOf", "(II)I"⟩
abbrev cX9_nibble : ByteArray := prog_11_method_47_code
def yX9_nibble : MethodName := ⟨RX9, "nibble", "(I)I"⟩
abbrev cX9_address : ByteArray := prog_11_method_48_code
def yX9_address : MethodName := ⟨RX9, "address", "(I)I"⟩
abbrev cX9_at : ByteArray := prog_11_method_49_code
def yX9_at : MethodName := ⟨RX9, "at", "(I)I"⟩
abbrev cX9_lineEnd : ByteArray := prog_11_method_50_code
def yX9_lineEnd : MethodName := ⟨RX9, "lineEnd", "(I)I"⟩
abbrev cX9_line : ByteArray := prog_11_method_51_code
def yX9_line : MethodName := ⟨RX9, "line", "(II)I"⟩
abbrev cX9_seek : ByteArray := prog_11_method_52_code
def yX9_seek : MethodName := ⟨RX9, "seek", "(I)I"⟩
abbrev cX9_start : ByteArray := prog_11_method_53_code
def yX9_start : MethodName := ⟨RX9, "start", "(I)I"⟩
abbrev cX9_goesOn : ByteArray := prog_11_method_54_code
def yX9_goesOn : MethodName := ⟨RX9, "goesOn", "()Z"⟩
abbrev cX9_placeOf : ByteArray := prog_11_method_55_code
def yX9_placeOf : MethodName := ⟨RX9, "placeOf", "(I)I"⟩
abbrev cX9_byAddress : ByteArray := prog_11_method_56_code
def yX9_byAddress : MethodName := ⟨RX9, "byAddress", "()I"⟩
abbrev cX9_holdLine : ByteArray := prog_11_method_57_code
def yX9_holdLine : MethodName := ⟨RX9, "holdLine", "(I)V"⟩
abbrev cX9_simple : ByteArray := prog_11_method_58_code
def yX9_simple : MethodName := ⟨RX9, "simple", "(II)V"⟩
abbrev cX9_oneStep : ByteArray := prog_11_method_59_code
def yX9_oneStep : MethodName := ⟨RX9, "oneStep", "()V"⟩
abbrev cX9_step : ByteArray := prog_11_method_60_code
def yX9_step : MethodName := ⟨RX9, "step", "(I)I"⟩
abbrev cX9_now : ByteArray := prog_11_method_61_code
def yX9_now : MethodName := ⟨RX9, "now", "(I)I"⟩
abbrev cX9_held : ByteArray := prog_11_method_62_code
def yX9_held : MethodName := ⟨RX9, "held", "(I)I"⟩
abbrev cX9_cell : ByteArray := prog_11_method_63_code
def yX9_cell : MethodName := ⟨RX9, "cell", "(I)I"⟩
abbrev cX9_out : ByteArray := prog_11_method_64_code
def yX9_out : MethodName := ⟨RX9, "out", "(I)I"⟩
abbrev cX9_count : ByteArray := prog_11_method_65_code
def yX9_count : MethodName := ⟨RX9, "count", "(I)I"⟩
def RJ11 : String := "java/lang/Character"
def TJ11 : u_T := fun k => match k with
  | _ => ("", "", "", false)
def tyJ11 : Nat → FieldType := fun k => match k with
  | _ => .int
theorem tyJ11_ok : ∀ k, k < 0 → parseFieldDescriptor (TJ11 k).2.2.1 = some (tyJ11 k) := by decide +kernel
abbrev cJ11_isValidCodePoint_9a6ad : ByteArray := prog_12_method_11_code
def yJ11_isValidCodePoint_9a6ad : MethodName := ⟨RJ11, "isValidCodePoint", "(I)Z"⟩
abbrev cJ11_highSurrogate_5068e : ByteArray := prog_12_method_28_code
def yJ11_highSurrogate_5068e : MethodName := ⟨RJ11, "highSurrogate", "(I)C"⟩
abbrev cJ11_lowSurrogate_5068e : ByteArray := prog_12_method_29_code
def yJ11_lowSurrogate_5068e : MethodName := ⟨RJ11, "lowSurrogate", "(I)C"⟩
def RJ9 : String := "java/lang/Math"
def TJ9 : u_T := fun k => match k with
  | _ => ("", "", "", false)
def tyJ9 : Nat → FieldType := fun k => match k with
  | _ => .int
theorem tyJ9_ok : ∀ k, k < 0 → parseFieldDescriptor (TJ9 k).2.2.1 = some (tyJ9 k) := by decide +kernel
abbrev cJ9_max_7cf53 : ByteArray := prog_13_method_65_code
def yJ9_max_7cf53 : MethodName := ⟨RJ9, "max", "(II)I"⟩
abbrev cJ9_min_7cf53 : ByteArray := prog_13_method_69_code
def yJ9_min_7cf53 : MethodName := ⟨RJ9, "min", "(II)I"⟩
def RJ0 : String := "java/lang/String"
def TJ0 : u_T := fun k => match k with
  | _ => ("", "", "", false)
def tyJ0 : Nat → FieldType := fun k => match k with
  | _ => .int
theorem tyJ0_ok : ∀ k, k < 0 → parseFieldDescriptor (TJ0 k).2.2.1 = some (tyJ0 k) := by decide +kernel
abbrev cJ0_length_8abf5 : ByteArray := prog_14_method_54_code
def yJ0_length_8abf5 : MethodName := ⟨RJ0, "length", "()I"⟩
abbrev cJ0_charAt_5068e : ByteArray := prog_14_method_56_code
def yJ0_charAt_5068e : MethodName := ⟨RJ0, "charAt", "(I)C"⟩
abbrev cJ0_indexOf_0f7a4 : ByteArray := prog_14_method_79_code
def yJ0_indexOf_0f7a4 : MethodName := ⟨RJ0, "indexOf", "(I)I"⟩
abbrev cJ0_indexOf_7cf53 : ByteArray := prog_14_method_80_code
def yJ0_indexOf_7cf53 : MethodName := ⟨RJ0, "indexOf", "(II)I"⟩
abbrev cJ0_coder_7d493 : ByteArray := prog_14_method_152_code
def yJ0_coder_7d493 : MethodName := ⟨RJ0, "coder", "()B"⟩
abbrev cJ0_isLatin1_aae02 : ByteArray := prog_14_method_154_code
def yJ0_isLatin1_aae02 : MethodName := ⟨RJ0, "isLatin1", "()Z"⟩
abbrev cJ0_checkIndex_df160 : ByteArray := prog_14_method_155_code
def yJ0_checkIndex_df160 : MethodName := ⟨RJ0, "checkIndex", "(II)V"⟩
abbrev cJ0_checkBoundsBeginEnd_23922 : ByteArray := prog_14_method_158_code
def yJ0_checkBoundsBeginEnd_23922 : MethodName := ⟨RJ0, "checkBoundsBeginEnd", "(III)V"⟩
def RJ1 : String := "java/lang/StringLatin1"
def TJ1 : u_T := fun k => match k with
  | _ => ("", "", "", false)
def tyJ1 : Nat → FieldType := fun k => match k with
  | _ => .int
theorem tyJ1_ok : ∀ k, k < 0 → parseFieldDescriptor (TJ1 k).2.2.1 = some (tyJ1 k) := by decide +kernel
abbrev cJ1_charAt_3b067 : ByteArray := prog_15_method_2_code
def yJ1_charAt_3b067 : MethodName := ⟨RJ1, "charAt", "([BI)C"⟩
abbrev cJ1_canEncode_9a6ad : ByteArray := prog_15_method_4_code
def yJ1_canEncode_9a6ad : MethodName := ⟨RJ1, "canEncode", "(I)Z"⟩
abbrev cJ1_indexOf_4cfef : ByteArray := prog_15_method_22_code
def yJ1_indexOf_4cfef : MethodName := ⟨RJ1, "indexOf", "([BIII)I"⟩
abbrev cJ1_indexOfChar_4cfef : ByteArray := prog_15_method_23_code
def yJ1_indexOfChar_4cfef : MethodName := ⟨RJ1, "indexOfChar", "([BIII)I"⟩
def RJ2 : String := "java/lang/StringUTF16"
def TJ2 : u_T := fun k => match k with
  | _ => ("", "", "", false)
def tyJ2 : Nat → FieldType := fun k => match k with
  | _ => .int
theorem tyJ2_ok : ∀ k, k < 0 → parseFieldDescriptor (TJ2 k).2.2.1 = some (tyJ2 k) := by decide +kernel
abbrev cJ2_getChar_3b067 : ByteArray := prog_16_method_5_code
def yJ2_getChar_3b067 : MethodName := ⟨RJ2, "getChar", "([BI)C"⟩
abbrev cJ2_length_9d52b : ByteArray := prog_16_method_6_code
def yJ2_length_9d52b : MethodName := ⟨RJ2, "length", "([B)I"⟩
abbrev cJ2_indexOf_4cfef : ByteArray := prog_16_method_40_code
def yJ2_indexOf_4cfef : MethodName := ⟨RJ2, "indexOf", "([BIII)I"⟩
abbrev cJ2_indexOfChar_4cfef : ByteArray := prog_16_method_47_code
def yJ2_indexOfChar_4cfef : MethodName := ⟨RJ2, "indexOfChar", "([BIII)I"⟩
abbrev cJ2_indexOfCharUnsafe_4cfef : ByteArray := prog_16_method_48_code
def yJ2_indexOfCharUnsafe_4cfef : MethodName := ⟨RJ2, "indexOfCharUnsafe", "([BIII)I"⟩
abbrev cJ2_indexOfSupplementary_4cfef : ByteArray := prog_16_method_49_code
def yJ2_indexOfSupplementary_4cfef : MethodName := ⟨RJ2, "indexOfSupplementary", "([BIII)I"⟩
abbrev cJ2_charAt_3b067 : ByteArray := prog_16_method_83_code
def yJ2_charAt_3b067 : MethodName := ⟨RJ2, "charAt", "([BI)C"⟩
abbrev cJ2_checkIndex_2214a : ByteArray := prog_16_method_91_code
def yJ2_checkIndex_2214a : MethodName := ⟨RJ2, "checkIndex", "(I[B)V"⟩
abbrev cJ2_checkBoundsBeginEnd_d044e : ByteArray := prog_16_method_93_code
def yJ2_checkBoundsBeginEnd_d044e : MethodName := ⟨RJ2, "checkBoundsBeginEnd", "(II[B)V"⟩
def RJ3 : String := "jdk/internal/util/Preconditions"
def TJ3 : u_T := fun k => match k with
  | _ => ("", "", "", false)
def tyJ3 : Nat → FieldType := fun k => match k with
  | _ => .int
theorem tyJ3_ok : ∀ k, k < 0 → parseFieldDescriptor (TJ3 k).2.2.1 = some (tyJ3 k) := by decide +kernel
abbrev cJ3_checkIndex_8e157 : ByteArray := prog_17_method_11_code
def yJ3_checkIndex_8e157 : MethodName := ⟨RJ3, "checkIndex", "(IILjava/util/function/BiFunction;)I"⟩
abbrev cJ3_checkFromToIndex_8c36e : ByteArray := prog_17_method_12_code
def yJ3_checkFromToIndex_8c36e : MethodName := ⟨RJ3, "checkFromToIndex", "(IIILjava/util/function/BiFunction;)I"⟩
def RL : String := "SqueezedCodeLaw"
abbrev cL_law : ByteArray := code
abbrev vwCl : List vw_C := [(RX0, TX0, 6), (RX1, TX1, 4), (RX2, TX2, 2), (RX3, TX3, 16), (RX4, TX4, 4), (RX5, TX5, 17), (RX6, TX6, 4), (RX7, TX7, 4), (RX8, TX8, 7), (RX9, TX9, 31)]
end
section
/-! THE SMALL MACHINE: values are whole numbers (of any size, told to the machine modulo 2^32), cells are rows of whole numbers -/
def xTb : List Cond := lw_tbl.filter goodWord
theorem xTb_mem {w : Cond} (i : Nat) (h : lw_tbl[i]? = some w) (g : goodWord w = true) : w ∈ xTb := List.mem_filter.mpr ⟨List.mem_of_getElem? h, g⟩
theorem xTb_good {w : Cond} (h : w ∈ xTb) : (w.onTables && w.keeps) = true ∨ ∃ ty, w = .arrayClass ty := good_of_word (List.mem_filter.mp h).2
/-- words that speak of a nest mate's members: they go along as facts of the state -/
def xNw : Cond → Bool
  | .fieldLinkNest _ _ _ _ _ _ => true
  | .methodLinkNest _ _ _ _ => true
  | _ => false
def xTn : List Cond := lw_tbl.filter xNw
theorem xTn_mem {w : Cond} (i : Nat) (h : lw_tbl[i]? = some w) (g : xNw w = true) : w ∈ xTn := List.mem_filter.mpr ⟨List.mem_of_getElem? h, g⟩
theorem xNw_tab {w : Cond} (h : xNw w = true) : w.onTables = true := by cases w <;> first | rfl | cases h
theorem xNw_warm {w : Cond} {s U : State} (g : xNw w = true) (hW : s.WarmedH U.vm) (h : va_Nw w s) : va_Nw w U := by
  cases w <;> first | exact va_Nw.warmF hW h | exact va_Nw.warmM hW h | cases g
theorem xGoodIn {y : MethodName} {cc : ByteArray} {n : Nat} {r : Option FieldType} (h : Cond.code y cc n r ∈ xTb) : GoodIn xTb (Cond.code y cc n r :: xTb) := fun w hw => by
  rcases List.mem_cons.mp hw with rfl | hw
  · exact ⟨h, xTb_good h⟩
  · exact ⟨hw, xTb_good hw⟩
abbrev XV : Type := Int ⊕ (Nat ⊕ Int)
abbrev vi (z : Int) : XV := Sum.inl z
abbrev vr (k : Nat) : XV := Sum.inr (Sum.inl k)
abbrev vl (z : Int) : XV := Sum.inr (Sum.inr z)
abbrev XH : Type := Nat → Int → Int
def hset (h : XH) (c : Nat) (k z : Int) : XH := fun c' k' => if c' = c ∧ k' = k then z else h c' k'
/-- launch, classes and slots, the first cell's address, array classes, the constant texts' addresses and their rows' -/
abbrev XK : Type := Launch × va_G × Nat × (Nat → ClassId) × (Nat → Nat) × (Nat → Nat)
def xad (K : XK) (k : Nat) : Nat := if k < 1000000 then K.2.2.1 + k else K.2.2.2.2.1 (k - 1000000)
def xv (K : XK) (v : XV) : Value := match v with
  | .inl z => .int (Int32.ofInt z)
  | .inr (.inl k) => .ref (xad K k)
  | .inr (.inr z) => .long (Int64.ofInt z)
def xro (K : XK) (z : Int) : Option Nat := if z ≤ 0 then none else some (K.2.2.1 + (z.toNat - 1))
def xFT (ci : Nat) : Nat → FieldType := match ci with
  | 0 => tyX0
  | 1 => tyX1
  | 2 => tyX2
  | 3 => tyX3
  | 4 => tyX4
  | 5 => tyX5
  | 6 => tyX6
  | 7 => tyX7
  | 8 => tyX8
  | _ => tyX9
/-- of a field: 0 whole number, 1 truth value, 2 reference -/
def xsort (t : FieldType) : Nat := match t with
  | .int => 0
  | .boolean => 1
  | _ => 2
def xFS (ci k : Nat) : Nat := xsort (xFT ci k)
def xSetT (o : Nat) : Nat × Nat := if o = 0 then (6, 4) else if o = 1 then (13, 8) else if (o - 2) % 3 = 0 then (1, 4) else (11, 4)
/-- what a cell is: below 10 an object of that class and how many fields; else an array (10 char, 11 int, 12 boolean, 13 Entry, 14 Setup, 15 int rows) and how long -/
def xTY (c : Nat) : Nat × Nat :=
  if c < 8 then [(8, 7), (7, 4), (10, 200), (11, 48), (4, 4), (11, 48), (11, 48), (12, 48)].getD c (0, 0)
  else if c < 34 then xSetT (c - 8)
  else if c < 36 then [(2, 2), (14, 6)].getD (c - 34) (0, 0)
  else if c < 192 then xSetT ((c - 36) % 26)
  else if c < 195 then [(3, 16), (11, 48), (15, 48)].getD (c - 192) (0, 0)
  else if c < 243 then (11, 5)
  else [(11, 49), (11, 48), (11, 49), (1, 4), (11, 4), (11, 4), (11, 48), (11, 48), (11, 48), (11, 48), (11, 192), (0, 6), (5, 17), (11, 10), (11, 12), (11, 4),
    (9, 31), (11, 200), (11, 48), (11, 48), (11, 48), (11, 48), (11, 48), (11, 93), (11, 498), (11, 49), (11, 48), (11, 49), (11, 10), (11, 12), (11, 5)].getD (c - 243) (0, 0)
/-- which cell (and one) a place holds for good, 0: it holds a number -/
def xRF (c k : Nat) : Nat :=
  if c < 8 then (if c = 0 then [2, 5, 9, 35, 193, 255, 256].getD k 0 else if c = 1 then [3, 4].getD k 0 else if c = 4 then [6, 7, 8].getD k 0 else 0)
  else if c < 192 then (if (xTY c).1 = 6 then (if k = 0 then c + 2 else 0) else if (xTY c).1 = 13 then (if k < 8 then c + 2 + 3 * k else 0) else if (xTY c).1 = 1 then (if k = 0 then c + 2 else if k = 1 then c + 3 else 0) else if (xTY c).1 = 2 then (if k = 0 then 36 else 0) else if (xTY c).1 = 14 then (if k < 6 then 37 + 26 * k else 0) else 0)
  else if c = 192 then [5, 9, 194, 195, 244, 245, 246, 247, 250, 251, 252, 253, 254].getD k 0
  else if c = 194 then (if k < 48 then 196 + k else 0)
  else if c < 246 then 0
  else if c = 246 then [248, 249].getD k 0
  else if c = 254 then [193, 9].getD k 0
  else if c = 255 then [5, 193, 257, 258, 259].getD k 0
  else if c = 259 then [0, 261, 0, 262, 263, 0, 264, 265, 266, 267, 268, 0, 269, 270, 271, 0, 0, 0, 0, 0, 0, 0, 0, 0, 272, 273, 0, 274].getD k 0
  else 0
def xe (K : XK) (t : Nat × Nat) (row : Int → Int) : va_E :=
  if t.1 < 10 then .inr (t.1, (List.range t.2).map fun (k : Nat) => if xFS t.1 k = 2 then va_rf (xro K (row k)) else .int (Int32.ofInt (row k)))
  else if t.1 < 13 then .inl (K.2.2.2.1 (t.1 - 10), t.2, .inl fun (j : Nat) => Int32.ofInt (row j))
  else .inl (K.2.2.2.1 (t.1 - 10), t.2, .inr (.inr (.inr (.inr fun (j : Nat) => xro K (row j)))))
def xw (K : XK) (n : Nat) (h : XH) : va_W := (List.range n).map fun c => (K.2.2.1 + c, xe K (xTY c) (h c))
theorem xw_get {K : XK} {n : Nat} {h : XH} {c : Nat} (hc : c < n) : (xw K n h)[c]? = some (K.2.2.1 + c, xe K (xTY c) (h c)) := by
  unfold xw
  rw [List.getElem?_map, List.getElem?_range hc]
  rfl
theorem xw_len {K : XK} {n : Nat} {h : XH} : (xw K n h).length = n := by simp [xw]
theorem xw_set {K : XK} {n : Nat} {h : XH} {c : Nat} {k z : Int} {e : va_E} (hc : c < n) (he : e = xe K (xTY c) (hset h c k z c)) : (xw K n h).set c (K.2.2.1 + c, e) = xw K n (hset h c k z) := by
  subst he
  apply List.ext_getElem?
  intro i
  by_cases hi : i < n
  · rw [xw_get hi]
    by_cases e : i = c
    · subst e
      rw [List.getElem?_set_self (by rw [xw_len]; exact hi)]
    · rw [List.getElem?_set_ne (Ne.symm e), xw_get hi]
      have : hset h c k z i = h i := by
        funext j
        simp [hset, e]
      rw [this]
  · rw [List.getElem?_eq_none (by rw [List.length_set, xw_len]; omega), List.getElem?_eq_none (by rw [xw_len]; omega)]
theorem xw_push {K : XK} {n : Nat} {h : XH} : xw K n h ++ [(K.2.2.1 + n, xe K (xTY n) (h n))] = xw K (n + 1) h := by
  simp [xw, List.range_succ]
def xA (K : XK) : Nat → Prop := fun q => K.2.2.1 ≤ q
theorem xw_D {K : XK} {n : Nat} {h : XH} : va_D (xA K) (xw K n h) := by
  have key : ∀ (i : Nat) (p : Nat × va_E), (xw K n h)[i]? = some p → p.1 = K.2.2.1 + i := by
    intro i p hp
    have hi : i < n := by
      have := (List.getElem?_eq_some_iff.mp hp).1
      rwa [xw_len] at this
    rw [xw_get hi] at hp
    cases hp
    rfl
  refine ⟨fun i j p q hi hj hpq => ?_, fun k q hk => ?_⟩
  · have h1 := key i p hi
    have h2 := key j q hj
    omega
  · rw [key k q hk]
    exact Nat.le_add_right _ _
def xtys (K : XK) : List (ClassId × FieldType) := [(K.2.2.2.1 0, .char), (K.2.2.2.1 1, .int), (K.2.2.2.1 2, .boolean), (K.2.2.2.1 3, .object RX1), (K.2.2.2.1 4, .object RX6), (K.2.2.2.1 5, .array .int)]
def xAOA (U : State) : Prop := (Cond.arrayOver (.array .int)).before #[] U = true
theorem xAOA_spec {args : Array Value} {first s : State} {o : Option Outcome} {idx : List Nat} (h : (Cond.arrayOver (.array .int)).holds args first o s idx = true) :
    ∃ comp c k, s.vm.findClass (FieldType.array .int).toString = some comp ∧ (s.vm.classes.findIdx? fun x => match x.kind with | .array component _ => component == comp | _ => false) = some c ∧ s.vm.classes[c]? = some k ∧ (∃ comp', k.kind = .array comp' (.array .int)) ∧
      s.vm.findClass ("[" ++ (FieldType.array .int).toString) = some c := by
  simp only [Cond.holds, Cond.value, beq_iff_eq] at h
  cases hc : s.vm.findClass (FieldType.array .int).toString with
  | none => simp [hc] at h
  | some comp =>
    simp only [hc, Option.bind_some, Option.bind_eq_some_iff, Option.map_eq_some_iff] at h
    obtain ⟨c, hi, k, hk, hb⟩ := h
    cases hkind : k.kind with
    | array component ty =>
      rw [hkind] at hb
      simp at hb
      exact ⟨comp, c, k, rfl, hi, hk, ⟨component, by rw [hkind, hb.1]⟩, hb.2⟩
    | _ => rw [hkind] at hb; simp at hb
theorem xAOA.moved {u U : State} (hvm : u.vm.Alike U.vm) (h : xAOA u) : xAOA U := by
  obtain ⟨comp, c, k, h1, h2, h3, ⟨comp', h4⟩, h5⟩ := xAOA_spec h
  obtain ⟨k', hk', he⟩ := hvm.2.2 _ _ h3
  have hi : (U.vm.classes.findIdx? fun (x : Class) => match x.kind with | .array component _ => component == comp | _ => false) = some c := by
    refine (va_idx_bare U.vm comp).symm.trans (Eq.trans ?_ ((va_idx_bare u.vm comp).trans h2))
    first | rw [hvm.bare_eq] | rw [← hvm.bare_eq]
  have hkind : k'.kind = .array comp' (.array .int) := by rw [he]; exact h4
  have f1 : U.vm.findClass (FieldType.array .int).toString = some comp := by rw [hvm.findClass]; exact h1
  have f2 : U.vm.findClass ("[" ++ (FieldType.array .int).toString) = some c := by rw [hvm.findClass]; exact h5
  unfold xAOA Cond.before Cond.holds
  simp only [Cond.value]
  rw [f1, Option.bind_some]
  refine (congrArg (fun o : Option Nat => (o.bind (fun c => (U.vm.classes[c]?).map fun (k : Class) => match k.kind with | .array _ ty => decide (ty = FieldType.array .int) && decide (U.vm.findClass ("[" ++ (FieldType.array .int).toString) = some c) | _ => false) == some true)) hi).trans ?_
  simp [hk', hkind, f2]
end
section
/-! the judgements: a walk (WX) and a contract (MX) of the small machine -/
/-- code, name, locals, answer, how many cells stand at least -/
abbrev XM : Type := ByteArray × MethodName × Nat × Option FieldType × Nat
def xXS (n : Nat) (h : XH) : Prop := ∀ c k : Nat, c < n → xRF c k ≠ 0 → h c k = xRF c k
def xTxt : List (List Int32) := [[97, 53, 115, 48, 97, 51, 109, 50, 115, 49, 119, 48, 97, 53, 115, 48, 97, 55, 109, 50, 115, 49, 119, 49, 107, 49, 52, 113, 97, 49, 97, 53, 115, 48, 97, 57, 109, 50, 115, 49, 119, 50, 108, 48, 122, 50, 54, 120, 49, 115, 48, 106, 49, 54, 104], [97, 109, 120, 115, 108, 112, 119, 106, 122, 107, 113, 104]]
/-- what is given of the machine's own things: classes, arrays of references, the two constant texts -/
def XF (K : XK) (U : State) : Prop := va_K K.2.1 vwCl (xtys K) U ∧ va_AO RX1 U ∧ va_AO RX6 U ∧ xAOA U ∧
  vk_S 2 [55, 12] xTxt K.2.2.2.2.1 K.2.2.2.2.2 (xA K) U U.heap ∧ va_Z "java/lang/String" "COMPACT_STRINGS" "Z" (.int 1) (xA K) U U.heap ∧
  vk_R RX8 64 "a5s0a3m2s1w0a5s0a7m2s1w1k14qa1a5s0a9m2s1w2l0z26x1s0j16h" (K.2.2.2.2.1 0) U ∧ vk_R RX7 44 "amxslpwjzkqh" (K.2.2.2.2.1 1) U ∧ vk_R RX8 277 "amxslpwjzkqh" (K.2.2.2.2.1 1) U ∧ ∀ w ∈ xTn, va_Nw w U
theorem XF.moved {K : XK} {s U : State} {H : Heap} {locs : List Loc} (hW : s.WarmedH U.vm) (hU : U.heap = H) (hS : va_S (xA K) s.heap H locs) (h : XF K s) : XF K U := by
  obtain ⟨h1, h2, h3, h4, h5, h6, h7, h8, h9, h10⟩ := h
  refine ⟨h1.moved hW.alike, h2.moved hW.alike, h3.moved hW.alike, h4.moved hW.alike, ?_, ?_, h7.warm hW, h8.warm hW, h9.warm hW, fun w hw => xNw_warm (List.mem_filter.mp hw).2 hW (h10 w hw)⟩
  · rw [hU]; exact (h5.moved hW.alike).kept hS.2.1
  · rw [hU]; exact (h6.moved hW.alike).kept hS.2.1
theorem XF.calling {K : XK} {U : State} {g : JFrame} {mk : MethodId} {a : Array Value} (h : XF K U) : XF K (U.calling g mk a) := by
  obtain ⟨h1, h2, h3, h4, h5, h6, h7, h8, h9, h10⟩ := h
  exact ⟨va_K.moved (u := U) (U := U.calling g mk a) (Vm.Alike.refl U.vm) h1, va_AO.moved (u := U) (U := U.calling g mk a) (Vm.Alike.refl U.vm) h2, va_AO.moved (u := U) (U := U.calling g mk a) (Vm.Alike.refl U.vm) h3, xAOA.moved (u := U) (U := U.calling g mk a) (Vm.Alike.refl U.vm) h4, vk_S.moved (u := U) (U := U.calling g mk a) (Vm.Alike.refl U.vm) h5, va_Z.moved (u := U) (U := U.calling g mk a) (Vm.Alike.refl U.vm) h6, vk_R.same (u := U) (U := U.calling g mk a) rfl h7, vk_R.same (u := U) (U := U.calling g mk a) rfl h8, vk_R.same (u := U) (U := U.calling g mk a) rfl h9, fun w hw => va_Nw.same (u := U) (U := U.calling g mk a) (xNw_tab (List.mem_filter.mp hw).2) rfl (h10 w hw)⟩
theorem XF.nest {K : XK} {U : State} (h : XF K U) {w : Cond} (hw : w ∈ xTn) (A : Array Value) : w.before A U = true := va_Nw.use (xNw_tab (List.mem_filter.mp hw).2) (h.2.2.2.2.2.2.2.2.2 w hw)
theorem XF.nestw {K : XK} {U : State} (h : XF K U) {w : Cond} (hw : w ∈ xTn) : va_Nw w U := h.2.2.2.2.2.2.2.2.2 w hw
/-- a method's surroundings while it runs -/
def XE (K : XK) (M : XM) (p : Program) (s : State) (m : MethodId) (args : Array Value) (meth : Method) (c : Code) : Prop :=
  p.tables.exec = Jvm.exec ∧ c.code = M.1 ∧ c.maxLocals = M.2.2.1 ∧ meth.sig.returnType = M.2.2.2.1 ∧ meth.locks = false ∧ meth.name = M.2.1.name ∧ s.vm.findClass M.2.1.cls = some m.cls ∧ (∀ w ∈ xTb, w.before args s = true) ∧ XF K s ∧ K.2.2.1 ≤ s.heap.size
/-- room: for good (the references stand), frames, cells, slots -/
abbrev XR : Type := Bool × Nat × Nat × Nat
def xrm (R : XR) : Room := { frames := R.2.1, cells := R.2.2.1, slots := R.2.2.2, locals := 38 * R.2.1 }
def xQ (K : XK) (md : Bool) (Q : Option XV → Nat → XH → Prop) : Array Value → State → Outcome → State → Prop := fun _ st o t =>
  (∃ (v : Option XV) (n : Nat) (h : XH), o = .returned (v.map (xv K)) ∧ Q v n h ∧ t.heap.size = K.2.2.1 + n ∧ va_P K.2.1 vwCl (xw K n h) t.heap ∧ (md = true → xXS n h)) ∧ va_F (xA K) st t
def xL (K : XK) (L : List (Nat × XV)) : List (Nat × Value) := L.map fun q => (q.1, xv K q.2)
/-- u: cells in all, new ones, new slots -/
def WX (K : XK) (M : XM) (R : XR) (Q : Option XV → Nat → XH → Prop) (u : Nat × Nat × Nat) (pc : Nat) (L : List (Nat × XV)) (st : List XV) (h : XH) : Prop :=
  (R.1 = true → M.2.2.2.2 ≤ u.1 ∧ xXS u.1 h) → ∀ (p : Program) (e : Env) (s : State) (m : MethodId) (args : Array Value) (below : List Frame) (meth : Method) (c : Code), XE K M p s m args meth c → ∀ (H : Heap) (locs : List Loc) (ls : Array Slot), H.size = K.2.2.1 + u.1 → va_P K.2.1 vwCl (xw K u.1 h) H → va_S (xA K) s.heap H locs → lv_has ls M.2.2.1 (xL K L) →
    W p K.1 e (xrm R) s m args below meth c H locs u.2.1 u.2.2 (MQ below (xQ K R.1 Q) args s R.2.2.1 R.2.2.2 (xA K)) (F0 m pc ls (st.map (xv K)))
def xPc (K : XK) (M : XM) (md : Bool) (n : Nat) (as : List XV) (h : XH) : Array Value → State → Prop := va_Pc (as.map (xv K)) (fun U => U.heap.size = K.2.2.1 + n ∧ va_P K.2.1 vwCl (xw K n h) U.heap ∧ XF K U ∧ (md = true → M.2.2.2.2 ≤ n ∧ xXS n h))
def MX (K : XK) (M : XM) (R : XR) (n : Nat) (as : List XV) (h : XH) (Q : Option XV → Nat → XH → Prop) : Prop :=
  Met K.1 M.2.1 (Cond.code M.2.1 M.1 M.2.2.1 M.2.2.2.1 :: xTb) (xrm R) (xPc K M R.1 n as h) (xQ K R.1 Q) R.2.2.1 R.2.2.2 (xA K)
/-- what the tables say of a method: how many arguments -/
def xMF (M : XM) (n : Nat) : Prop := plainName M.2.1.cls = true ∧ Cond.code M.2.1 M.1 M.2.2.1 M.2.2.2.1 ∈ xTb ∧ Cond.initialized M.2.1.cls ∈ xTb ∧ M.2.1.cls ≠ "java/lang/invoke/MethodHandle" ∧ M.2.1.cls ≠ "java/lang/invoke/VarHandle" ∧ (parseMethodDescriptor M.2.1.desc).map (fun d => d.parameters.length) = some n ∧ M.2.2.1 ≤ 19
def xMV (M : XM) : Prop := Cond.instanceMethod M.2.1 ∈ xTb ∧ Cond.selects M.2.1.cls M.2.1 M.2.1 ∈ xTb
def xMS (M : XM) : Prop := Cond.static M.2.1 ∈ xTb
def xMI (M : XM) : Prop := Cond.instanceMethod M.2.1 ∈ xTb ∧ M.2.1.name = "<init>"
def xML (own : String) (idx : Nat) (y : MethodName) : Prop := Cond.methodLink own idx y ∈ xTb ∨ ∃ host, Cond.methodLinkNest own idx y host ∈ xTn
def xargs : Nat → List XV → List (Nat × XV)
  | _, [] => []
  | i, v :: vs => (i, v) :: xargs (i + (match v with | .inr (.inr _) => 2 | _ => 1)) vs
theorem xcat (K : XK) (v : XV) : (xv K v).category = (match v with | .inr (.inr _) => 2 | _ => 1) := by
  rcases v with z | k | z <;> rfl
theorem xargs_lv (K : XK) : ∀ (as : List XV) (i : Nat), lv_args i (as.map (xv K)) = xL K (xargs i as)
  | [], i => rfl
  | v :: vs, i => by
    have e := xargs_lv K vs
    rcases v with z | k | z
    · exact congrArg (fun l => (i, xv K (vi z)) :: l) (e (i + 1))
    · exact congrArg (fun l => (i, xv K (vr k)) :: l) (e (i + 1))
    · exact congrArg (fun l => (i, xv K (vl z)) :: l) (e (i + 2))
theorem xMeth {K : XK} {M : XM} {R : XR} {n a : Nat} {as : List XV} {h : XH} {Q : Option XV → Nat → XH → Prop} (hF : xMF M a) (hlen : (lg_sl (as.map (xv K))).length ≤ M.2.2.1) (hw : WX K M R Q (n, 0, 0) 0 (xargs 0 as) [] h) : MX K M R n as h Q := by
  refine Met.ofW (cc := M.1) (maxL := M.2.2.1) (ret := M.2.2.2.1) hF.1 rfl ?_
  intro p e s m args below meth c s₁ B hml hv
  obtain ⟨rfl, hsz, hP, hXF, hmd⟩ := hv
  have hts : ∀ w ∈ xTb, w.before (as.map (xv K)).toArray s = true := fun w hw => atoms_spec (ws := Cond.code M.2.1 M.1 M.2.2.1 M.2.2.2.1 :: xTb) B.pre w (List.mem_cons_of_mem _ hw)
  have hl := lv_entry (as.map (xv K)) (n := M.2.2.1) hlen
  rw [lg_entry_eq]
  rw [xargs_lv] at hl
  exact hw hmd p e s m _ below meth c ⟨B.exec, B.bytes, hml, B.returns, B.notSynchronized, (name_of_methodNamed B.named B.method).1, findClass_of_methodNamed B.named, hts, hXF, by rw [hsz]; exact Nat.le_add_right _ _⟩ s.heap [] _ hsz hP va_S.rf hl
end
section
/-! by program: each method's instructions, what the tables say of methods, fields and calls -/
def xdt (b : ByteArray) (t : List (Nat × Instr × Nat)) : Bool := t.all fun q => decide (decode b q.1 = .ok q.2)
def xfind : List (Nat × Instr × Nat) → Nat → Option (Instr × Nat)
  | [], _ => none
  | q :: t, pc => cond (Nat.beq q.1 pc) (some q.2) (xfind t pc)
theorem xd {b : ByteArray} {t : List (Nat × Instr × Nat)} (h : xdt b t = true) {pc : Nat} {r : Instr × Nat} (hf : xfind t pc = some r) : decode b pc = .ok r := by
  induction t with
  | nil => cases hf
  | cons q t ih =>
    have h2 : (decide (decode b q.1 = .ok q.2) && xdt b t) = true := h
    rw [Bool.and_eq_true] at h2
    unfold xfind at hf
    cases hb : Nat.beq q.1 pc with
    | true =>
      rw [hb] at hf
      have e1 : q.1 = pc := Nat.eq_of_beq_eq_true hb
      have e2 : q.2 = r := Option.some.inj hf
      rw [← e1, ← e2]
      exact of_decide_eq_true h2.1
    | false =>
      rw [hb] at hf
      exact ih h2.2 hf
def tX0_init : List (Nat × Instr × Nat) := [(0, .aload_n 0, 1), (1, .invokespecial 3, 3), (4, .aload_n 0, 1), (5, .aload_n 1, 1), (6, .putfield 9, 3), (9, .aload_n 0, 1), (10, .aload_n 2, 1), (11, .putfield 15, 3), (14, .return_, 1)]
theorem DX0_init : xdt cX0_init tX0_init = true := by decide +kernel
abbrev mX0_init : XM := (cX0_init, yX0_init, 3, none, 259)
theorem FX0_init : xMF mX0_init 2 := ⟨by decide +kernel, xTb_mem 282 (by decide +kernel) rfl, xTb_mem 62 (by decide +kernel) rfl, by decide +kernel, by decide +kernel, by decide +kernel, by decide⟩
theorem VX0_init : xMI mX0_init := ⟨xTb_mem 281 (by decide +kernel) rfl, rfl⟩
def tX0_find : List (Nat × Instr × Nat) := [(0, .aload_n 0, 1), (1, .iconst 0, 1), (2, .putfield 19, 3), (5, .aload_n 0, 1), (6, .getfield 15, 3), (9, .getfield 23, 3), (12, .bipush 8, 2), (14, .if_icmp .lt 5, 3), (17, .iconst 0, 1), (18, .ireturn, 1), (19, .iconst 2, 1), (20, .istore_n 1, 1), (21, .iload_n 1, 1), (22, .iconst 4, 1), (23, .if_icmp .gt 28, 3), (26, .iconst (-1), 1), (27, .istore_n 2, 1), (28, .iload_n 2, 1), (29, .iload_n 1, 1), (30, .if_icmp .ge 15, 3), (33, .aload_n 0, 1), (34, .iload_n 1, 1), (35, .iload_n 2, 1), (36, .invokevirtual 28, 3), (39, .iinc 2 1, 3), (42, .goto (-14), 3), (45, .iinc 1 1, 3), (48, .goto (-27), 3), (51, .aload_n 0, 1), (52, .getfield 19, 3), (55, .ifCond .le 7, 3), (58, .iconst 1, 1), (59, .goto 4, 3), (62, .iconst 0, 1), (63, .ireturn, 1)]
theorem DX0_find : xdt cX0_find tX0_find = true := by decide +kernel
abbrev mX0_find : XM := (cX0_find, yX0_find, 3, (some .boolean), 259)
theorem FX0_find : xMF mX0_find 0 := ⟨by decide +kernel, xTb_mem 714 (by decide +kernel) rfl, xTb_mem 62 (by decide +kernel) rfl, by decide +kernel, by decide +kernel, by decide +kernel, by decide⟩
theorem VX0_find : xMV mX0_find := ⟨xTb_mem 712 (by decide +kernel) rfl, xTb_mem 713 (by decide +kernel) rfl⟩
def tX0_tryAll : List (Nat × Instr × Nat) := [(0, .iconst 0, 1), (1, .istore_n 3, 1), (2, .iload_n 3, 1), (3, .aload_n 0, 1), (4, .getfield 9, 3), (7, .getfield 32, 3), (10, .getfield 38, 3), (13, .if_icmp .ge 83, 3), (16, .aload_n 0, 1), (17, .getfield 9, 3), (20, .iload_n 3, 1), (21, .iload_n 1, 1), (22, .invokevirtual 43, 3), (25, .ifCond .eq 65, 3), (28, .aload_n 0, 1), (29, .getfield 9, 3), (32, .iload_n 3, 1), (33, .iload_n 1, 1), (34, .iload_n 2, 1), (35, .invokevirtual 47, 3), (38, .aload_n 0, 1), (39, .getfield 19, 3), (42, .if_icmp .gt 6, 3), (45, .goto 45, 3), (48, .aload_n 0, 1), (49, .getfield 9, 3), (52, .iload_n 3, 1), (53, .iload_n 1, 1), (54, .iload_n 2, 1), (55, .invokevirtual 51, 3), (58, .istore 4, 2), (60, .iload 4, 2), (62, .aload_n 0, 1), (63, .getfield 19, 3), (66, .if_icmp .le 24, 3), (69, .aload_n 0, 1), (70, .iload 4, 2), (72, .putfield 19, 3), (75, .aload_n 0, 1), (76, .iload_n 3, 1), (77, .putfield 54, 3), (80, .aload_n 0, 1), (81, .iload_n 1, 1), (82, .putfield 57, 3), (85, .aload_n 0, 1), (86, .iload_n 2, 1), (87, .putfield 60, 3), (90, .iinc 3 1, 3), (93, .goto (-91), 3), (96, .return_, 1)]
theorem DX0_tryAll : xdt cX0_tryAll tX0_tryAll = true := by decide +kernel
abbrev mX0_tryAll : XM := (cX0_tryAll, yX0_tryAll, 5, none, 259)
theorem FX0_tryAll : xMF mX0_tryAll 2 := ⟨by decide +kernel, xTb_mem 718 (by decide +kernel) rfl, xTb_mem 62 (by decide +kernel) rfl, by decide +kernel, by decide +kernel, by decide +kernel, by decide⟩
theorem VX0_tryAll : xMV mX0_tryAll := ⟨xTb_mem 717 (by decide +kernel) rfl, xTb_mem 14 (by decide +kernel) rfl⟩
def tX1_init : List (Nat × Instr × Nat) := [(0, .aload_n 0, 1), (1, .invokespecial 3, 3), (4, .aload_n 0, 1), (5, .iconst 4, 1), (6, .newarray .int, 2), (8, .putfield 9, 3), (11, .aload_n 0, 1), (12, .iconst 4, 1), (13, .newarray .int, 2), (15, .putfield 15, 3), (18, .return_, 1)]
theorem DX1_init : xdt cX1_init tX1_init = true := by decide +kernel
abbrev mX1_init : XM := (cX1_init, yX1_init, 1, none, 259)
theorem FX1_init : xMF mX1_init 0 := ⟨by decide +kernel, xTb_mem 149 (by decide +kernel) rfl, xTb_mem 59 (by decide +kernel) rfl, by decide +kernel, by decide +kernel, by decide +kernel, by decide⟩
theorem VX1_init : xMI mX1_init := ⟨xTb_mem 148 (by decide +kernel) rfl, rfl⟩
def tX1_take : List (Nat × Instr × Nat) := [(0, .aload_n 0, 1), (1, .iload_n 3, 1), (2, .putfield 18, 3), (5, .aload_n 0, 1), (6, .iload 4, 2), (8, .ifCond .ge 8, 3), (11, .bipush (-4), 2), (13, .goto 5, 3), (16, .iload 4, 2), (18, .putfield 22, 3), (21, .iconst 0, 1), (22, .istore 5, 2), (24, .iload 5, 2), (26, .iload_n 3, 1), (27, .if_icmp .ge 41, 3), (30, .aload_n 0, 1), (31, .getfield 9, 3), (34, .iload 5, 2), (36, .aload_n 1, 1), (37, .getfield 25, 3), (40, .iload_n 2, 1), (41, .iload 5, 2), (43, .iadd, 1), (44, .iaload, 1), (45, .iastore, 1), (46, .aload_n 0, 1), (47, .getfield 15, 3), (50, .iload 5, 2), (52, .aload_n 1, 1), (53, .getfield 28, 3), (56, .iload_n 2, 1), (57, .iload 5, 2), (59, .iadd, 1), (60, .iaload, 1), (61, .iastore, 1), (62, .iinc 5 1, 3), (65, .goto (-41), 3), (68, .return_, 1)]
theorem DX1_take : xdt cX1_take tX1_take = true := by decide +kernel
abbrev mX1_take : XM := (cX1_take, yX1_take, 6, none, 259)
theorem FX1_take : xMF mX1_take 4 := ⟨by decide +kernel, xTb_mem 677 (by decide +kernel) rfl, xTb_mem 59 (by decide +kernel) rfl, by decide +kernel, by decide +kernel, by decide +kernel, by decide⟩
theorem VX1_take : xMV mX1_take := ⟨xTb_mem 675 (by decide +kernel) rfl, xTb_mem 676 (by decide +kernel) rfl⟩
def tX1_copy : List (Nat × Instr × Nat) := [(0, .aload_n 0, 1), (1, .aload_n 1, 1), (2, .getfield 18, 3), (5, .putfield 18, 3), (8, .aload_n 0, 1), (9, .aload_n 1, 1), (10, .getfield 22, 3), (13, .putfield 22, 3), (16, .iconst 0, 1), (17, .istore_n 2, 1), (18, .iload_n 2, 1), (19, .iconst 4, 1), (20, .if_icmp .ge 33, 3), (23, .aload_n 0, 1), (24, .getfield 9, 3), (27, .iload_n 2, 1), (28, .aload_n 1, 1), (29, .getfield 9, 3), (32, .iload_n 2, 1), (33, .iaload, 1), (34, .iastore, 1), (35, .aload_n 0, 1), (36, .getfield 15, 3), (39, .iload_n 2, 1), (40, .aload_n 1, 1), (41, .getfield 15, 3), (44, .iload_n 2, 1), (45, .iaload, 1), (46, .iastore, 1), (47, .iinc 2 1, 3), (50, .goto (-32), 3), (53, .return_, 1)]
theorem DX1_copy : xdt cX1_copy tX1_copy = true := by decide +kernel
abbrev mX1_copy : XM := (cX1_copy, yX1_copy, 3, none, 259)
theorem FX1_copy : xMF mX1_copy 1 := ⟨by decide +kernel, xTb_mem 669 (by decide +kernel) rfl, xTb_mem 59 (by decide +kernel) rfl, by decide +kernel, by decide +kernel, by decide +kernel, by decide⟩
theorem VX1_copy : xMV mX1_copy := ⟨xTb_mem 667 (by decide +kernel) rfl, xTb_mem 668 (by decide +kernel) rfl⟩
def tX1_fits : List (Nat × Instr × Nat) := [(0, .iload_n 2, 1), (1, .ifCond .lt 16, 3), (4, .iload_n 2, 1), (5, .aload_n 1, 1), (6, .getfield 29, 3), (9, .aload_n 0, 1), (10, .getfield 18, 3), (13, .isub, 1), (14, .if_icmp .le 5, 3), (17, .iconst 0, 1), (18, .ireturn, 1), (19, .iconst 0, 1), (20, .istore_n 3, 1), (21, .iload_n 3, 1), (22, .aload_n 0, 1), (23, .getfield 18, 3), (26, .if_icmp .ge 55, 3), (29, .aload_n 0, 1), (30, .getfield 9, 3), (33, .iload_n 3, 1), (34, .iaload, 1), (35, .aload_n 1, 1), (36, .getfield 25, 3), (39, .iload_n 2, 1), (40, .iload_n 3, 1), (41, .iadd, 1), (42, .iaload, 1), (43, .if_icmp .eq 5, 3), (46, .iconst 0, 1), (47, .ireturn, 1), (48, .iload_n 3, 1), (49, .aload_n 0, 1), (50, .getfield 22, 3), (53, .if_icmp .eq 22, 3), (56, .aload_n 0, 1), (57, .getfield 15, 3), (60, .iload_n 3, 1), (61, .iaload, 1), (62, .aload_n 1, 1), (63, .getfield 28, 3), (66, .iload_n 2, 1), (67, .iload_n 3, 1), (68, .iadd, 1), (69, .iaload, 1), (70, .if_icmp .eq 5, 3), (73, .iconst 0, 1), (74, .ireturn, 1), (75, .iinc 3 1, 3), (78, .goto (-57), 3), (81, .iconst 1, 1), (82, .ireturn, 1)]
theorem DX1_fits : xdt cX1_fits tX1_fits = true := by decide +kernel
abbrev mX1_fits : XM := (cX1_fits, yX1_fits, 4, (some .boolean), 259)
theorem FX1_fits : xMF mX1_fits 2 := ⟨by decide +kernel, xTb_mem 564 (by decide +kernel) rfl, xTb_mem 59 (by decide +kernel) rfl, by decide +kernel, by decide +kernel, by decide +kernel, by decide⟩
theorem VX1_fits : xMV mX1_fits := ⟨xTb_mem 562 (by decide +kernel) rfl, xTb_mem 563 (by decide +kernel) rfl⟩
def tX2_init : List (Nat × Instr × Nat) := [(0, .aload_n 0, 1), (1, .invokespecial 3, 3), (4, .aload_n 0, 1), (5, .bipush 6, 2), (7, .anewarray 9, 3), (10, .putfield 11, 3), (13, .iconst 0, 1), (14, .istore_n 1, 1), (15, .iload_n 1, 1), (16, .bipush 6, 2), (18, .if_icmp .ge 22, 3), (21, .aload_n 0, 1), (22, .getfield 11, 3), (25, .iload_n 1, 1), (26, .new 9, 3), (29, .dup, 1), (30, .invokespecial 17, 3), (33, .aastore, 1), (34, .iinc 1 1, 3), (37, .goto (-22), 3), (40, .return_, 1)]
theorem DX2_init : xdt cX2_init tX2_init = true := by decide +kernel
abbrev mX2_init : XM := (cX2_init, yX2_init, 2, none, 259)
theorem FX2_init : xMF mX2_init 0 := ⟨by decide +kernel, xTb_mem 197 (by decide +kernel) rfl, xTb_mem 60 (by decide +kernel) rfl, by decide +kernel, by decide +kernel, by decide +kernel, by decide⟩
theorem VX2_init : xMI mX2_init := ⟨xTb_mem 196 (by decide +kernel) rfl, rfl⟩
def tX2_keep : List (Nat × Instr × Nat) := [(0, .aload_n 0, 1), (1, .getfield 18, 3), (4, .bipush 6, 2), (6, .if_icmp .ne 44, 3), (9, .iconst 1, 1), (10, .istore_n 2, 1), (11, .iload_n 2, 1), (12, .bipush 6, 2), (14, .if_icmp .ge 26, 3), (17, .aload_n 0, 1), (18, .getfield 11, 3), (21, .iload_n 2, 1), (22, .iconst 1, 1), (23, .isub, 1), (24, .aaload, 1), (25, .aload_n 0, 1), (26, .getfield 11, 3), (29, .iload_n 2, 1), (30, .aaload, 1), (31, .invokevirtual 22, 3), (34, .iinc 2 1, 3), (37, .goto (-26), 3), (40, .aload_n 0, 1), (41, .dup, 1), (42, .getfield 18, 3), (45, .iconst 1, 1), (46, .isub, 1), (47, .putfield 18, 3), (50, .aload_n 0, 1), (51, .getfield 11, 3), (54, .aload_n 0, 1), (55, .getfield 18, 3), (58, .aaload, 1), (59, .aload_n 1, 1), (60, .invokevirtual 22, 3), (63, .aload_n 0, 1), (64, .dup, 1), (65, .getfield 18, 3), (68, .iconst 1, 1), (69, .iadd, 1), (70, .putfield 18, 3), (73, .return_, 1)]
theorem DX2_keep : xdt cX2_keep tX2_keep = true := by decide +kernel
abbrev mX2_keep : XM := (cX2_keep, yX2_keep, 3, none, 259)
theorem FX2_keep : xMF mX2_keep 1 := ⟨by decide +kernel, xTb_mem 661 (by decide +kernel) rfl, xTb_mem 60 (by decide +kernel) rfl, by decide +kernel, by decide +kernel, by decide +kernel, by decide⟩
theorem VX2_keep : xMV mX2_keep := ⟨xTb_mem 659 (by decide +kernel) rfl, xTb_mem 660 (by decide +kernel) rfl⟩
def tX2_giveBack : List (Nat × Instr × Nat) := [(0, .aload_n 0, 1), (1, .getfield 18, 3), (4, .ifCond .le 26, 3), (7, .aload_n 0, 1), (8, .dup, 1), (9, .getfield 18, 3), (12, .iconst 1, 1), (13, .isub, 1), (14, .putfield 18, 3), (17, .aload_n 1, 1), (18, .aload_n 0, 1), (19, .getfield 11, 3), (22, .aload_n 0, 1), (23, .getfield 18, 3), (26, .aaload, 1), (27, .invokevirtual 22, 3), (30, .return_, 1)]
theorem DX2_giveBack : xdt cX2_giveBack tX2_giveBack = true := by decide +kernel
abbrev mX2_giveBack : XM := (cX2_giveBack, yX2_giveBack, 2, none, 259)
theorem FX2_giveBack : xMF mX2_giveBack 1 := ⟨by decide +kernel, xTb_mem 757 (by decide +kernel) rfl, xTb_mem 60 (by decide +kernel) rfl, by decide +kernel, by decide +kernel, by decide +kernel, by decide⟩
theorem VX2_giveBack : xMV mX2_giveBack := ⟨xTb_mem 755 (by decide +kernel) rfl, xTb_mem 756 (by decide +kernel) rfl⟩
def tX3_init : List (Nat × Instr × Nat) := [(0, .aload_n 0, 1), (1, .invokespecial 3, 3), (4, .aload_n 0, 1), (5, .bipush 48, 2), (7, .newarray .int, 2), (9, .putfield 9, 3), (12, .aload_n 0, 1), (13, .bipush 48, 2), (15, .iconst 5, 1), (16, .multianewarray 15 2, 4), (20, .putfield 17, 3), (23, .aload_n 0, 1), (24, .bipush 49, 2), (26, .newarray .int, 2), (28, .putfield 20, 3), (31, .aload_n 0, 1), (32, .bipush 48, 2), (34, .newarray .int, 2), (36, .putfield 23, 3), (39, .aload_n 0, 1), (40, .bipush 49, 2), (42, .newarray .int, 2), (44, .putfield 26, 3), (47, .aload_n 0, 1), (48, .new 29, 3), (51, .dup, 1), (52, .invokespecial 31, 3), (55, .putfield 32, 3), (58, .aload_n 0, 1), (59, .bipush 48, 2), (61, .newarray .int, 2), (63, .putfield 36, 3), (66, .aload_n 0, 1), (67, .bipush 48, 2), (69, .newarray .int, 2), (71, .putfield 39, 3), (74, .aload_n 0, 1), (75, .bipush 48, 2), (77, .newarray .int, 2), (79, .putfield 42, 3), (82, .aload_n 0, 1), (83, .bipush 48, 2), (85, .newarray .int, 2), (87, .putfield 45, 3), (90, .aload_n 0, 1), (91, .sipush 192, 3), (94, .newarray .int, 2), (96, .putfield 48, 3), (99, .aload_n 0, 1), (100, .aload_n 1, 1), (101, .putfield 51, 3), (104, .aload_n 0, 1), (105, .aload_n 2, 1), (106, .putfield 55, 3), (109, .return_, 1)]
theorem DX3_init : xdt cX3_init tX3_init = true := by decide +kernel
abbrev mX3_init : XM := (cX3_init, yX3_init, 3, none, 259)
theorem FX3_init : xMF mX3_init 2 := ⟨by decide +kernel, xTb_mem 214 (by decide +kernel) rfl, xTb_mem 61 (by decide +kernel) rfl, by decide +kernel, by decide +kernel, by decide +kernel, by decide⟩
theorem VX3_init : xMI mX3_init := ⟨xTb_mem 213 (by decide +kernel) rfl, rfl⟩
def tX3_reckon : List (Nat × Instr × Nat) := [(0, .aload_n 0, 1), (1, .aload_n 0, 1), (2, .getfield 55, 3), (5, .getfield 59, 3), (8, .iconst 4, 1), (9, .if_icmp .ne 7, 3), (12, .iconst 2, 1), (13, .goto 20, 3), (16, .aload_n 0, 1), (17, .getfield 55, 3), (20, .getfield 59, 3), (23, .bipush 8, 2), (25, .if_icmp .ne 7, 3), (28, .iconst 3, 1), (29, .goto 4, 3), (32, .iconst 4, 1), (33, .putfield 65, 3), (36, .aload_n 0, 1), (37, .aload_n 0, 1), (38, .getfield 51, 3), (41, .getfield 68, 3), (44, .aload_n 0, 1), (45, .getfield 55, 3), (48, .getfield 59, 3), (51, .iadd, 1), (52, .iconst 1, 1), (53, .isub, 1), (54, .aload_n 0, 1), (55, .getfield 65, 3), (58, .ishr, 1), (59, .putfield 73, 3), (62, .aload_n 0, 1), (63, .invokevirtual 76, 3), (66, .aload_n 0, 1), (67, .invokevirtual 79, 3), (70, .aload_n 0, 1), (71, .invokevirtual 82, 3), (74, .aload_n 0, 1), (75, .invokevirtual 85, 3), (78, .return_, 1)]
theorem DX3_reckon : xdt cX3_reckon tX3_reckon = true := by decide +kernel
abbrev mX3_reckon : XM := (cX3_reckon, yX3_reckon, 1, none, 259)
theorem FX3_reckon : xMF mX3_reckon 0 := ⟨by decide +kernel, xTb_mem 528 (by decide +kernel) rfl, xTb_mem 61 (by decide +kernel) rfl, by decide +kernel, by decide +kernel, by decide +kernel, by decide⟩
theorem VX3_reckon : xMV mX3_reckon := ⟨xTb_mem 526 (by decide +kernel) rfl, xTb_mem 527 (by decide +kernel) rfl⟩
def tX3_measureReaches : List (Nat × Instr × Nat) := [(0, .aload_n 0, 1), (1, .getfield 51, 3), (4, .getfield 68, 3), (7, .iconst 1, 1), (8, .isub, 1), (9, .istore_n 1, 1), (10, .iload_n 1, 1), (11, .ifCond .lt 72, 3), (14, .aload_n 0, 1), (15, .getfield 51, 3), (18, .getfield 88, 3), (21, .iload_n 1, 1), (22, .iaload, 1), (23, .invokestatic 91, 3), (26, .ifCond .ne 13, 3), (29, .aload_n 0, 1), (30, .getfield 9, 3), (33, .iload_n 1, 1), (34, .iconst 0, 1), (35, .iastore, 1), (36, .goto 41, 3), (39, .aload_n 0, 1), (40, .iload_n 1, 1), (41, .invokevirtual 95, 3), (44, .ifCond .eq 26, 3), (47, .aload_n 0, 1), (48, .getfield 9, 3), (51, .iload_n 1, 1), (52, .iconst 4, 1), (53, .iconst 1, 1), (54, .aload_n 0, 1), (55, .getfield 9, 3), (58, .iload_n 1, 1), (59, .iconst 1, 1), (60, .iadd, 1), (61, .iaload, 1), (62, .iadd, 1), (63, .invokestatic 98, 3), (66, .iastore, 1), (67, .goto 10, 3), (70, .aload_n 0, 1), (71, .getfield 9, 3), (74, .iload_n 1, 1), (75, .iconst 1, 1), (76, .iastore, 1), (77, .iinc 1 (-1), 3), (80, .goto (-70), 3), (83, .return_, 1)]
theorem DX3_measureReaches : xdt cX3_measureReaches tX3_measureReaches = true := by decide +kernel
abbrev mX3_measureReaches : XM := (cX3_measureReaches, yX3_measureReaches, 2, none, 259)
theorem FX3_measureReaches : xMF mX3_measureReaches 0 := ⟨by decide +kernel, xTb_mem 532 (by decide +kernel) rfl, xTb_mem 61 (by decide +kernel) rfl, by decide +kernel, by decide +kernel, by decide +kernel, by decide⟩
theorem VX3_measureReaches : xMV mX3_measureReaches := ⟨xTb_mem 531 (by decide +kernel) rfl, xTb_mem 2 (by decide +kernel) rfl⟩
def tX3_leadsOn : List (Nat × Instr × Nat) := [(0, .aload_n 0, 1), (1, .getfield 51, 3), (4, .iload_n 1, 1), (5, .iconst 1, 1), (6, .iadd, 1), (7, .invokevirtual 104, 3), (10, .ifCond .eq 53, 3), (13, .aload_n 0, 1), (14, .iload_n 1, 1), (15, .invokevirtual 107, 3), (18, .aload_n 0, 1), (19, .iload_n 1, 1), (20, .iconst 1, 1), (21, .iadd, 1), (22, .invokevirtual 107, 3), (25, .if_icmp .ne 38, 3), (28, .aload_n 0, 1), (29, .getfield 51, 3), (32, .getfield 88, 3), (35, .iload_n 1, 1), (36, .iconst 1, 1), (37, .iadd, 1), (38, .iaload, 1), (39, .invokestatic 91, 3), (42, .ifCond .eq 21, 3), (45, .aload_n 0, 1), (46, .getfield 51, 3), (49, .getfield 111, 3), (52, .iload_n 1, 1), (53, .iconst 1, 1), (54, .iadd, 1), (55, .baload, 1), (56, .ifCond .ne 7, 3), (59, .iconst 1, 1), (60, .goto 4, 3), (63, .iconst 0, 1), (64, .ireturn, 1)]
theorem DX3_leadsOn : xdt cX3_leadsOn tX3_leadsOn = true := by decide +kernel
abbrev mX3_leadsOn : XM := (cX3_leadsOn, yX3_leadsOn, 2, (some .boolean), 259)
theorem FX3_leadsOn : xMF mX3_leadsOn 1 := ⟨by decide +kernel, xTb_mem 537 (by decide +kernel) rfl, xTb_mem 61 (by decide +kernel) rfl, by decide +kernel, by decide +kernel, by decide +kernel, by decide⟩
theorem VX3_leadsOn : xMV mX3_leadsOn := ⟨xTb_mem 536 (by decide +kernel) rfl, xTb_mem 3 (by decide +kernel) rfl⟩
def tX3_findBest : List (Nat × Instr × Nat) := [(0, .aload_n 0, 1), (1, .getfield 20, 3), (4, .aload_n 0, 1), (5, .getfield 51, 3), (8, .getfield 68, 3), (11, .iconst 0, 1), (12, .iastore, 1), (13, .aload_n 0, 1), (14, .getfield 51, 3), (17, .getfield 68, 3), (20, .iconst 1, 1), (21, .isub, 1), (22, .istore_n 1, 1), (23, .iload_n 1, 1), (24, .ifCond .lt 91, 3), (27, .iconst 2, 1), (28, .istore_n 2, 1), (29, .iload_n 2, 1), (30, .iconst 4, 1), (31, .if_icmp .gt 18, 3), (34, .aload_n 0, 1), (35, .getfield 17, 3), (38, .iload_n 1, 1), (39, .aaload, 1), (40, .iload_n 2, 1), (41, .iconst 0, 1), (42, .iastore, 1), (43, .iinc 2 1, 3), (46, .goto (-17), 3), (49, .aload_n 0, 1), (50, .getfield 20, 3), (53, .iload_n 1, 1), (54, .aload_n 0, 1), (55, .getfield 51, 3), (58, .getfield 88, 3), (61, .iload_n 1, 1), (62, .iaload, 1), (63, .invokestatic 115, 3), (66, .aload_n 0, 1), (67, .getfield 20, 3), (70, .iload_n 1, 1), (71, .iconst 1, 1), (72, .iadd, 1), (73, .iaload, 1), (74, .iadd, 1), (75, .iastore, 1), (76, .aload_n 0, 1), (77, .getfield 23, 3), (80, .iload_n 1, 1), (81, .bipush (-4), 2), (83, .iastore, 1), (84, .iconst 0, 1), (85, .istore_n 2, 1), (86, .iload_n 2, 1), (87, .aload_n 0, 1), (88, .getfield 55, 3), (91, .getfield 118, 3), (94, .if_icmp .ge 15, 3), (97, .aload_n 0, 1), (98, .iload_n 1, 1), (99, .iload_n 2, 1), (100, .invokevirtual 121, 3), (103, .iinc 2 1, 3), (106, .goto (-20), 3), (109, .iinc 1 (-1), 3), (112, .goto (-89), 3), (115, .return_, 1)]
theorem DX3_findBest : xdt cX3_findBest tX3_findBest = true := by decide +kernel
abbrev mX3_findBest : XM := (cX3_findBest, yX3_findBest, 3, none, 259)
theorem FX3_findBest : xMF mX3_findBest 0 := ⟨by decide +kernel, xTb_mem 547 (by decide +kernel) rfl, xTb_mem 61 (by decide +kernel) rfl, by decide +kernel, by decide +kernel, by decide +kernel, by decide⟩
theorem VX3_findBest : xMV mX3_findBest := ⟨xTb_mem 546 (by decide +kernel) rfl, xTb_mem 4 (by decide +kernel) rfl⟩
def tX3_offer : List (Nat × Instr × Nat) := [(0, .aload_n 0, 1), (1, .getfield 55, 3), (4, .getfield 125, 3), (7, .iload_n 2, 1), (8, .aaload, 1), (9, .astore_n 3, 1), (10, .aload_n 0, 1), (11, .aload_n 3, 1), (12, .iload_n 1, 1), (13, .invokevirtual 129, 3), (16, .ifCond .ne 4, 3), (19, .return_, 1), (20, .aload_n 3, 1), (21, .getfield 133, 3), (24, .invokestatic 136, 3), (27, .istore 4, 2), (29, .aload_n 0, 1), (30, .getfield 17, 3), (33, .iload_n 1, 1), (34, .aaload, 1), (35, .aload_n 3, 1), (36, .getfield 139, 3), (39, .iaload, 1), (40, .istore 5, 2), (42, .iload 5, 2), (44, .ifCond .eq 10, 3), (47, .iload 4, 2), (49, .iload 5, 2), (51, .if_icmp .ge 16, 3), (54, .aload_n 0, 1), (55, .getfield 17, 3), (58, .iload_n 1, 1), (59, .aaload, 1), (60, .aload_n 3, 1), (61, .getfield 139, 3), (64, .iload 4, 2), (66, .iastore, 1), (67, .iload 4, 2), (69, .aload_n 0, 1), (70, .getfield 20, 3), (73, .iload_n 1, 1), (74, .aload_n 3, 1), (75, .getfield 139, 3), (78, .iadd, 1), (79, .iaload, 1), (80, .iadd, 1), (81, .istore 6, 2), (83, .iload 6, 2), (85, .aload_n 0, 1), (86, .getfield 20, 3), (89, .iload_n 1, 1), (90, .iaload, 1), (91, .if_icmp .ge 18, 3), (94, .aload_n 0, 1), (95, .getfield 20, 3), (98, .iload_n 1, 1), (99, .iload 6, 2), (101, .iastore, 1), (102, .aload_n 0, 1), (103, .getfield 23, 3), (106, .iload_n 1, 1), (107, .iload_n 2, 1), (108, .iastore, 1), (109, .return_, 1)]
theorem DX3_offer : xdt cX3_offer tX3_offer = true := by decide +kernel
abbrev mX3_offer : XM := (cX3_offer, yX3_offer, 7, none, 259)
theorem FX3_offer : xMF mX3_offer 2 := ⟨by decide +kernel, xTb_mem 556 (by decide +kernel) rfl, xTb_mem 61 (by decide +kernel) rfl, by decide +kernel, by decide +kernel, by decide +kernel, by decide⟩
theorem VX3_offer : xMV mX3_offer := ⟨xTb_mem 555 (by decide +kernel) rfl, xTb_mem 5 (by decide +kernel) rfl⟩
def tX3_placeAll : List (Nat × Instr × Nat) := [(0, .bipush (-4), 2), (2, .istore_n 1, 1), (3, .iconst 0, 1), (4, .istore_n 2, 1), (5, .iconst 0, 1), (6, .istore_n 3, 1), (7, .aload_n 0, 1), (8, .iconst 0, 1), (9, .putfield 142, 3), (12, .iconst 0, 1), (13, .istore 4, 2), (15, .iload 4, 2), (17, .aload_n 0, 1), (18, .getfield 51, 3), (21, .getfield 68, 3), (24, .if_icmp .ge 176, 3), (27, .iload_n 3, 1), (28, .ifCond .ne 7, 3), (31, .iconst 1, 1), (32, .goto 4, 3), (35, .iconst 0, 1), (36, .istore 5, 2), (38, .aload_n 0, 1), (39, .getfield 42, 3), (42, .iload 4, 2), (44, .iload 5, 2), (46, .ifCond .eq 10, 3), (49, .aload_n 0, 1), (50, .getfield 142, 3), (53, .goto 5, 3), (56, .bipush (-4), 2), (58, .iastore, 1), (59, .iload 5, 2), (61, .ifCond .eq 91, 3), (64, .aload_n 0, 1), (65, .getfield 23, 3), (68, .iload 4, 2), (70, .iaload, 1), (71, .istore_n 1, 1), (72, .iconst 0, 1), (73, .istore_n 2, 1), (74, .iload_n 1, 1), (75, .ifCond .ge 7, 3), (78, .iconst 1, 1), (79, .goto 4, 3), (82, .iconst 0, 1), (83, .istore 6, 2), (85, .iload 6, 2), (87, .ifCond .eq 7, 3), (90, .iconst 1, 1), (91, .goto 15, 3), (94, .aload_n 0, 1), (95, .getfield 55, 3), (98, .getfield 125, 3), (101, .iload_n 1, 1), (102, .aaload, 1), (103, .getfield 139, 3), (106, .istore_n 3, 1), (107, .aload_n 0, 1), (108, .dup, 1), (109, .getfield 142, 3), (112, .iload 6, 2), (114, .ifCond .eq 19, 3), (117, .aload_n 0, 1), (118, .getfield 51, 3), (121, .getfield 88, 3), (124, .iload 4, 2), (126, .iaload, 1), (127, .invokestatic 115, 3), (130, .goto 18, 3), (133, .aload_n 0, 1), (134, .getfield 55, 3), (137, .getfield 125, 3), (140, .iload_n 1, 1), (141, .aaload, 1), (142, .getfield 133, 3), (145, .invokestatic 136, 3), (148, .iadd, 1), (149, .putfield 142, 3), (152, .aload_n 0, 1), (153, .getfield 36, 3), (156, .iload 4, 2), (158, .iload_n 1, 1), (159, .iastore, 1), (160, .aload_n 0, 1), (161, .getfield 39, 3), (164, .iload 4, 2), (166, .iload_n 1, 1), (167, .ifCond .ge 8, 3), (170, .bipush (-4), 2), (172, .goto 4, 3), (175, .iload_n 2, 1), (176, .iastore, 1), (177, .aload_n 0, 1), (178, .getfield 45, 3), (181, .iload 4, 2), (183, .aload_n 0, 1), (184, .getfield 142, 3), (187, .iastore, 1), (188, .iinc 2 1, 3), (191, .iinc 3 (-1), 3), (194, .iinc 4 1, 3), (197, .goto (-182), 3), (200, .return_, 1)]
theorem DX3_placeAll : xdt cX3_placeAll tX3_placeAll = true := by decide +kernel
abbrev mX3_placeAll : XM := (cX3_placeAll, yX3_placeAll, 7, none, 259)
theorem FX3_placeAll : xMF mX3_placeAll 0 := ⟨by decide +kernel, xTb_mem 571 (by decide +kernel) rfl, xTb_mem 61 (by decide +kernel) rfl, by decide +kernel, by decide +kernel, by decide +kernel, by decide⟩
theorem VX3_placeAll : xMV mX3_placeAll := ⟨xTb_mem 570 (by decide +kernel) rfl, xTb_mem 7 (by decide +kernel) rfl⟩
def tX3_layNibbles : List (Nat × Instr × Nat) := [(0, .iconst 0, 1), (1, .istore_n 1, 1), (2, .iload_n 1, 1), (3, .aload_n 0, 1), (4, .getfield 51, 3), (7, .getfield 68, 3), (10, .if_icmp .ge 49, 3), (13, .aload_n 0, 1), (14, .getfield 42, 3), (17, .iload_n 1, 1), (18, .iaload, 1), (19, .ifCond .lt 20, 3), (22, .aload_n 0, 1), (23, .getfield 36, 3), (26, .iload_n 1, 1), (27, .iaload, 1), (28, .ifCond .lt 11, 3), (31, .aload_n 0, 1), (32, .iload_n 1, 1), (33, .invokevirtual 143, 3), (36, .goto 17, 3), (39, .aload_n 0, 1), (40, .getfield 42, 3), (43, .iload_n 1, 1), (44, .iaload, 1), (45, .ifCond .lt 8, 3), (48, .aload_n 0, 1), (49, .iload_n 1, 1), (50, .invokevirtual 147, 3), (53, .iinc 1 1, 3), (56, .goto (-54), 3), (59, .return_, 1)]
theorem DX3_layNibbles : xdt cX3_layNibbles tX3_layNibbles = true := by decide +kernel
abbrev mX3_layNibbles : XM := (cX3_layNibbles, yX3_layNibbles, 2, none, 259)
theorem FX3_layNibbles : xMF mX3_layNibbles 0 := ⟨by decide +kernel, xTb_mem 575 (by decide +kernel) rfl, xTb_mem 61 (by decide +kernel) rfl, by decide +kernel, by decide +kernel, by decide +kernel, by decide⟩
theorem VX3_layNibbles : xMV mX3_layNibbles := ⟨xTb_mem 574 (by decide +kernel) rfl, xTb_mem 8 (by decide +kernel) rfl⟩
def tX3_layReference : List (Nat × Instr × Nat) := [(0, .aload_n 0, 1), (1, .getfield 42, 3), (4, .iload_n 1, 1), (5, .iaload, 1), (6, .istore_n 2, 1), (7, .aload_n 0, 1), (8, .getfield 55, 3), (11, .getfield 125, 3), (14, .aload_n 0, 1), (15, .getfield 36, 3), (18, .iload_n 1, 1), (19, .iaload, 1), (20, .aaload, 1), (21, .getfield 133, 3), (24, .istore_n 3, 1), (25, .aload_n 0, 1), (26, .getfield 48, 3), (29, .iload_n 2, 1), (30, .bipush 15, 2), (32, .iastore, 1), (33, .aload_n 0, 1), (34, .getfield 48, 3), (37, .iload_n 2, 1), (38, .iconst 1, 1), (39, .iadd, 1), (40, .aload_n 0, 1), (41, .getfield 36, 3), (44, .iload_n 1, 1), (45, .iaload, 1), (46, .iastore, 1), (47, .iload_n 3, 1), (48, .ifCond .lt 22, 3), (51, .aload_n 0, 1), (52, .getfield 48, 3), (55, .iload_n 2, 1), (56, .iconst 2, 1), (57, .iadd, 1), (58, .aload_n 0, 1), (59, .getfield 51, 3), (62, .getfield 150, 3), (65, .iload_n 1, 1), (66, .iload_n 3, 1), (67, .iadd, 1), (68, .iaload, 1), (69, .iastore, 1), (70, .return_, 1)]
theorem DX3_layReference : xdt cX3_layReference tX3_layReference = true := by decide +kernel
abbrev mX3_layReference : XM := (cX3_layReference, yX3_layReference, 4, none, 259)
theorem FX3_layReference : xMF mX3_layReference 1 := ⟨by decide +kernel, xTb_mem 579 (by decide +kernel) rfl, xTb_mem 61 (by decide +kernel) rfl, by decide +kernel, by decide +kernel, by decide +kernel, by decide⟩
theorem VX3_layReference : xMV mX3_layReference := ⟨xTb_mem 578 (by decide +kernel) rfl, xTb_mem 9 (by decide +kernel) rfl⟩
def tX3_layAlone : List (Nat × Instr × Nat) := [(0, .aload_n 0, 1), (1, .getfield 42, 3), (4, .iload_n 1, 1), (5, .iaload, 1), (6, .istore_n 2, 1), (7, .aload_n 0, 1), (8, .getfield 51, 3), (11, .getfield 88, 3), (14, .iload_n 1, 1), (15, .iaload, 1), (16, .istore_n 3, 1), (17, .aload_n 0, 1), (18, .getfield 48, 3), (21, .iload_n 2, 1), (22, .iload_n 3, 1), (23, .iastore, 1), (24, .iload_n 3, 1), (25, .invokestatic 91, 3), (28, .ifCond .eq 23, 3), (31, .aload_n 0, 1), (32, .getfield 48, 3), (35, .iload_n 2, 1), (36, .iconst 1, 1), (37, .iadd, 1), (38, .aload_n 0, 1), (39, .getfield 51, 3), (42, .getfield 150, 3), (45, .iload_n 1, 1), (46, .iaload, 1), (47, .iastore, 1), (48, .goto 89, 3), (51, .iload_n 3, 1), (52, .invokestatic 153, 3), (55, .ifCond .eq 82, 3), (58, .aload_n 0, 1), (59, .getfield 51, 3), (62, .aload_n 0, 1), (63, .getfield 51, 3), (66, .getfield 150, 3), (69, .iload_n 1, 1), (70, .iaload, 1), (71, .invokevirtual 104, 3), (74, .ifCond .eq 63, 3), (77, .aload_n 0, 1), (78, .getfield 42, 3), (81, .aload_n 0, 1), (82, .getfield 51, 3), (85, .getfield 150, 3), (88, .iload_n 1, 1), (89, .iaload, 1), (90, .iaload, 1), (91, .istore 4, 2), (93, .aload_n 0, 1), (94, .getfield 48, 3), (97, .iload_n 2, 1), (98, .iconst 1, 1), (99, .iadd, 1), (100, .iload 4, 2), (102, .bipush 8, 2), (104, .ishr, 1), (105, .bipush 15, 2), (107, .iand, 1), (108, .iastore, 1), (109, .aload_n 0, 1), (110, .getfield 48, 3), (113, .iload_n 2, 1), (114, .iconst 2, 1), (115, .iadd, 1), (116, .iload 4, 2), (118, .iconst 4, 1), (119, .ishr, 1), (120, .bipush 15, 2), (122, .iand, 1), (123, .iastore, 1), (124, .aload_n 0, 1), (125, .getfield 48, 3), (128, .iload_n 2, 1), (129, .iconst 3, 1), (130, .iadd, 1), (131, .iload 4, 2), (133, .bipush 15, 2), (135, .iand, 1), (136, .iastore, 1), (137, .return_, 1)]
theorem DX3_layAlone : xdt cX3_layAlone tX3_layAlone = true := by decide +kernel
abbrev mX3_layAlone : XM := (cX3_layAlone, yX3_layAlone, 5, none, 259)
theorem FX3_layAlone : xMF mX3_layAlone 1 := ⟨by decide +kernel, xTb_mem 583 (by decide +kernel) rfl, xTb_mem 61 (by decide +kernel) rfl, by decide +kernel, by decide +kernel, by decide +kernel, by decide⟩
theorem VX3_layAlone : xMV mX3_layAlone := ⟨xTb_mem 582 (by decide +kernel) rfl, xTb_mem 10 (by decide +kernel) rfl⟩
def tX3_isSequence : List (Nat × Instr × Nat) := [(0, .aload_n 0, 1), (1, .getfield 51, 3), (4, .iload_n 1, 1), (5, .invokevirtual 104, 3), (8, .ifCond .eq 22, 3), (11, .iload_n 2, 1), (12, .iconst 2, 1), (13, .if_icmp .lt 17, 3), (16, .iload_n 2, 1), (17, .aload_n 0, 1), (18, .getfield 9, 3), (21, .iload_n 1, 1), (22, .iaload, 1), (23, .if_icmp .gt 7, 3), (26, .iconst 1, 1), (27, .goto 4, 3), (30, .iconst 0, 1), (31, .ireturn, 1)]
theorem DX3_isSequence : xdt cX3_isSequence tX3_isSequence = true := by decide +kernel
abbrev mX3_isSequence : XM := (cX3_isSequence, yX3_isSequence, 3, (some .boolean), 259)
theorem FX3_isSequence : xMF mX3_isSequence 2 := ⟨by decide +kernel, xTb_mem 652 (by decide +kernel) rfl, xTb_mem 61 (by decide +kernel) rfl, by decide +kernel, by decide +kernel, by decide +kernel, by decide⟩
theorem VX3_isSequence : xMV mX3_isSequence := ⟨xTb_mem 650 (by decide +kernel) rfl, xTb_mem 651 (by decide +kernel) rfl⟩
def tX3_matches : List (Nat × Instr × Nat) := [(0, .aload_n 1, 1), (1, .getfield 139, 3), (4, .aload_n 0, 1), (5, .getfield 9, 3), (8, .iload_n 2, 1), (9, .iaload, 1), (10, .if_icmp .gt 19, 3), (13, .aload_n 1, 1), (14, .aload_n 0, 1), (15, .getfield 51, 3), (18, .iload_n 2, 1), (19, .invokevirtual 156, 3), (22, .ifCond .eq 7, 3), (25, .iconst 1, 1), (26, .goto 4, 3), (29, .iconst 0, 1), (30, .ireturn, 1)]
theorem DX3_matches : xdt cX3_matches tX3_matches = true := by decide +kernel
abbrev mX3_matches : XM := (cX3_matches, yX3_matches, 3, (some .boolean), 259)
theorem FX3_matches : xMF mX3_matches 2 := ⟨by decide +kernel, xTb_mem 560 (by decide +kernel) rfl, xTb_mem 61 (by decide +kernel) rfl, by decide +kernel, by decide +kernel, by decide +kernel, by decide⟩
theorem VX3_matches : xMV mX3_matches := ⟨xTb_mem 559 (by decide +kernel) rfl, xTb_mem 6 (by decide +kernel) rfl⟩
def tX3_gainOf : List (Nat × Instr × Nat) := [(0, .aload_n 0, 1), (1, .getfield 32, 3), (4, .aload_n 0, 1), (5, .getfield 51, 3), (8, .iload_n 1, 1), (9, .iload_n 2, 1), (10, .iload_n 3, 1), (11, .invokevirtual 160, 3), (14, .aload_n 0, 1), (15, .getfield 142, 3), (18, .aload_n 0, 1), (19, .invokevirtual 164, 3), (22, .isub, 1), (23, .iload_n 2, 1), (24, .invokestatic 168, 3), (27, .isub, 1), (28, .ireturn, 1)]
theorem DX3_gainOf : xdt cX3_gainOf tX3_gainOf = true := by decide +kernel
abbrev mX3_gainOf : XM := (cX3_gainOf, yX3_gainOf, 4, (some .int), 259)
theorem FX3_gainOf : xMF mX3_gainOf 3 := ⟨by decide +kernel, xTb_mem 697 (by decide +kernel) rfl, xTb_mem 61 (by decide +kernel) rfl, by decide +kernel, by decide +kernel, by decide +kernel, by decide⟩
theorem VX3_gainOf : xMV mX3_gainOf := ⟨xTb_mem 695 (by decide +kernel) rfl, xTb_mem 696 (by decide +kernel) rfl⟩
def tX3_fewestWithCandidate : List (Nat × Instr × Nat) := [(0, .aload_n 0, 1), (1, .getfield 32, 3), (4, .getfield 133, 3), (7, .invokestatic 136, 3), (10, .istore_n 1, 1), (11, .aload_n 0, 1), (12, .getfield 26, 3), (15, .aload_n 0, 1), (16, .getfield 51, 3), (19, .getfield 68, 3), (22, .iconst 0, 1), (23, .iastore, 1), (24, .aload_n 0, 1), (25, .getfield 51, 3), (28, .getfield 68, 3), (31, .iconst 1, 1), (32, .isub, 1), (33, .istore_n 2, 1), (34, .iload_n 2, 1), (35, .ifCond .lt 127, 3), (38, .aload_n 0, 1), (39, .getfield 51, 3), (42, .getfield 88, 3), (45, .iload_n 2, 1), (46, .iaload, 1), (47, .invokestatic 115, 3), (50, .aload_n 0, 1), (51, .getfield 26, 3), (54, .iload_n 2, 1), (55, .iconst 1, 1), (56, .iadd, 1), (57, .iaload, 1), (58, .iadd, 1), (59, .istore_n 3, 1), (60, .iconst 2, 1), (61, .istore 4, 2), (63, .iload 4, 2), (65, .aload_n 0, 1), (66, .getfield 9, 3), (69, .iload_n 2, 1), (70, .iaload, 1), (71, .if_icmp .gt 45, 3), (74, .aload_n 0, 1), (75, .getfield 17, 3), (78, .iload_n 2, 1), (79, .aaload, 1), (80, .iload 4, 2), (82, .iaload, 1), (83, .ifCond .le 27, 3), (86, .iload_n 3, 1), (87, .aload_n 0, 1), (88, .getfield 17, 3), (91, .iload_n 2, 1), (92, .aaload, 1), (93, .iload 4, 2), (95, .iaload, 1), (96, .aload_n 0, 1), (97, .getfield 26, 3), (100, .iload_n 2, 1), (101, .iload 4, 2), (103, .iadd, 1), (104, .iaload, 1), (105, .iadd, 1), (106, .invokestatic 98, 3), (109, .istore_n 3, 1), (110, .iinc 4 1, 3), (113, .goto (-50), 3), (116, .aload_n 0, 1), (117, .aload_n 0, 1), (118, .getfield 32, 3), (121, .iload_n 2, 1), (122, .invokevirtual 129, 3), (125, .ifCond .eq 24, 3), (128, .iload_n 3, 1), (129, .iload_n 1, 1), (130, .aload_n 0, 1), (131, .getfield 26, 3), (134, .iload_n 2, 1), (135, .aload_n 0, 1), (136, .getfield 32, 3), (139, .getfield 139, 3), (142, .iadd, 1), (143, .iaload, 1), (144, .iadd, 1), (145, .invokestatic 98, 3), (148, .istore_n 3, 1), (149, .aload_n 0, 1), (150, .getfield 26, 3), (153, .iload_n 2, 1), (154, .iload_n 3, 1), (155, .iastore, 1), (156, .iinc 2 (-1), 3), (159, .goto (-125), 3), (162, .aload_n 0, 1), (163, .getfield 26, 3), (166, .iconst 0, 1), (167, .iaload, 1), (168, .ireturn, 1)]
theorem DX3_fewestWithCandidate : xdt cX3_fewestWithCandidate tX3_fewestWithCandidate = true := by decide +kernel
abbrev mX3_fewestWithCandidate : XM := (cX3_fewestWithCandidate, yX3_fewestWithCandidate, 5, (some .int), 259)
theorem FX3_fewestWithCandidate : xMF mX3_fewestWithCandidate 0 := ⟨by decide +kernel, xTb_mem 702 (by decide +kernel) rfl, xTb_mem 61 (by decide +kernel) rfl, by decide +kernel, by decide +kernel, by decide +kernel, by decide⟩
theorem VX3_fewestWithCandidate : xMV mX3_fewestWithCandidate := ⟨xTb_mem 701 (by decide +kernel) rfl, xTb_mem 13 (by decide +kernel) rfl⟩
def tX3_mostGainOf : List (Nat × Instr × Nat) := [(0, .aload_n 0, 1), (1, .getfield 32, 3), (4, .aload_n 0, 1), (5, .getfield 51, 3), (8, .iload_n 1, 1), (9, .iload_n 2, 1), (10, .iload_n 3, 1), (11, .invokevirtual 160, 3), (14, .iconst 2, 1), (15, .iload_n 2, 1), (16, .imul, 1), (17, .aload_n 0, 1), (18, .getfield 32, 3), (21, .getfield 133, 3), (24, .invokestatic 136, 3), (27, .isub, 1), (28, .istore 4, 2), (30, .iload 4, 2), (32, .aload_n 0, 1), (33, .aload_n 0, 1), (34, .getfield 32, 3), (37, .invokevirtual 171, 3), (40, .imul, 1), (41, .iload_n 2, 1), (42, .invokestatic 168, 3), (45, .isub, 1), (46, .ireturn, 1)]
theorem DX3_mostGainOf : xdt cX3_mostGainOf tX3_mostGainOf = true := by decide +kernel
abbrev mX3_mostGainOf : XM := (cX3_mostGainOf, yX3_mostGainOf, 5, (some .int), 259)
theorem FX3_mostGainOf : xMF mX3_mostGainOf 3 := ⟨by decide +kernel, xTb_mem 723 (by decide +kernel) rfl, xTb_mem 61 (by decide +kernel) rfl, by decide +kernel, by decide +kernel, by decide +kernel, by decide⟩
theorem VX3_mostGainOf : xMV mX3_mostGainOf := ⟨xTb_mem 721 (by decide +kernel) rfl, xTb_mem 722 (by decide +kernel) rfl⟩
def tX3_matchesOf : List (Nat × Instr × Nat) := [(0, .iconst 0, 1), (1, .istore_n 2, 1), (2, .iconst 0, 1), (3, .istore_n 3, 1), (4, .iload_n 3, 1), (5, .aload_n 0, 1), (6, .getfield 51, 3), (9, .getfield 68, 3), (12, .if_icmp .ge 21, 3), (15, .aload_n 0, 1), (16, .aload_n 1, 1), (17, .iload_n 3, 1), (18, .invokevirtual 129, 3), (21, .ifCond .eq 6, 3), (24, .iinc 2 1, 3), (27, .iinc 3 1, 3), (30, .goto (-26), 3), (33, .iload_n 2, 1), (34, .ireturn, 1)]
theorem DX3_matchesOf : xdt cX3_matchesOf tX3_matchesOf = true := by decide +kernel
abbrev mX3_matchesOf : XM := (cX3_matchesOf, yX3_matchesOf, 4, (some .int), 259)
theorem FX3_matchesOf : xMF mX3_matchesOf 1 := ⟨by decide +kernel, xTb_mem 727 (by decide +kernel) rfl, xTb_mem 61 (by decide +kernel) rfl, by decide +kernel, by decide +kernel, by decide +kernel, by decide⟩
theorem VX3_matchesOf : xMV mX3_matchesOf := ⟨xTb_mem 725 (by decide +kernel) rfl, xTb_mem 726 (by decide +kernel) rfl⟩
def tX3_referencesTo : List (Nat × Instr × Nat) := [(0, .iconst 0, 1), (1, .istore_n 2, 1), (2, .iconst 0, 1), (3, .istore_n 3, 1), (4, .iload_n 3, 1), (5, .aload_n 0, 1), (6, .getfield 51, 3), (9, .getfield 68, 3), (12, .if_icmp .ge 31, 3), (15, .aload_n 0, 1), (16, .getfield 36, 3), (19, .iload_n 3, 1), (20, .iaload, 1), (21, .iload_n 1, 1), (22, .if_icmp .ne 15, 3), (25, .aload_n 0, 1), (26, .getfield 39, 3), (29, .iload_n 3, 1), (30, .iaload, 1), (31, .ifCond .ne 6, 3), (34, .iinc 2 1, 3), (37, .iinc 3 1, 3), (40, .goto (-36), 3), (43, .iload_n 2, 1), (44, .ireturn, 1)]
theorem DX3_referencesTo : xdt cX3_referencesTo tX3_referencesTo = true := by decide +kernel
abbrev mX3_referencesTo : XM := (cX3_referencesTo, yX3_referencesTo, 4, (some .int), 259)
theorem FX3_referencesTo : xMF mX3_referencesTo 1 := ⟨by decide +kernel, xTb_mem 736 (by decide +kernel) rfl, xTb_mem 61 (by decide +kernel) rfl, by decide +kernel, by decide +kernel, by decide +kernel, by decide⟩
theorem VX3_referencesTo : xMV mX3_referencesTo := ⟨xTb_mem 734 (by decide +kernel) rfl, xTb_mem 735 (by decide +kernel) rfl⟩
def tX3_references : List (Nat × Instr × Nat) := [(0, .iconst 0, 1), (1, .istore_n 3, 1), (2, .iload_n 1, 1), (3, .istore 4, 2), (5, .iload 4, 2), (7, .iload_n 2, 1), (8, .if_icmp .ge 34, 3), (11, .iload 4, 2), (13, .aload_n 0, 1), (14, .getfield 51, 3), (17, .getfield 68, 3), (20, .if_icmp .ge 22, 3), (23, .aload_n 0, 1), (24, .getfield 39, 3), (27, .iload 4, 2), (29, .iaload, 1), (30, .ifCond .ne 6, 3), (33, .iinc 3 1, 3), (36, .iinc 4 1, 3), (39, .goto (-34), 3), (42, .iload_n 3, 1), (43, .ireturn, 1)]
theorem DX3_references : xdt cX3_references tX3_references = true := by decide +kernel
abbrev mX3_references : XM := (cX3_references, yX3_references, 5, (some .int), 259)
theorem FX3_references : xMF mX3_references 2 := ⟨by decide +kernel, xTb_mem 775 (by decide +kernel) rfl, xTb_mem 61 (by decide +kernel) rfl, by decide +kernel, by decide +kernel, by decide +kernel, by decide⟩
theorem VX3_references : xMV mX3_references := ⟨xTb_mem 773 (by decide +kernel) rfl, xTb_mem 774 (by decide +kernel) rfl⟩
def tX3_instructionOf : List (Nat × Instr × Nat) := [(0, .iconst 0, 1), (1, .istore_n 2, 1), (2, .iload_n 2, 1), (3, .aload_n 0, 1), (4, .getfield 51, 3), (7, .getfield 68, 3), (10, .if_icmp .ge 21, 3), (13, .aload_n 0, 1), (14, .getfield 42, 3), (17, .iload_n 2, 1), (18, .iaload, 1), (19, .iload_n 1, 1), (20, .if_icmp .ne 5, 3), (23, .iload_n 2, 1), (24, .ireturn, 1), (25, .iinc 2 1, 3), (28, .goto (-26), 3), (31, .bipush (-4), 2), (33, .ireturn, 1)]
theorem DX3_instructionOf : xdt cX3_instructionOf tX3_instructionOf = true := by decide +kernel
abbrev mX3_instructionOf : XM := (cX3_instructionOf, yX3_instructionOf, 3, (some .int), 259)
theorem FX3_instructionOf : xMF mX3_instructionOf 1 := ⟨by decide +kernel, xTb_mem 791 (by decide +kernel) rfl, xTb_mem 61 (by decide +kernel) rfl, by decide +kernel, by decide +kernel, by decide +kernel, by decide⟩
theorem VX3_instructionOf : xMV mX3_instructionOf := ⟨xTb_mem 789 (by decide +kernel) rfl, xTb_mem 790 (by decide +kernel) rfl⟩
def tX3_lineOf : List (Nat × Instr × Nat) := [(0, .iload_n 1, 1), (1, .aload_n 0, 1), (2, .getfield 65, 3), (5, .ishr, 1), (6, .ireturn, 1)]
theorem DX3_lineOf : xdt cX3_lineOf tX3_lineOf = true := by decide +kernel
abbrev mX3_lineOf : XM := (cX3_lineOf, yX3_lineOf, 2, (some .int), 259)
theorem FX3_lineOf : xMF mX3_lineOf 1 := ⟨by decide +kernel, xTb_mem 542 (by decide +kernel) rfl, xTb_mem 61 (by decide +kernel) rfl, by decide +kernel, by decide +kernel, by decide +kernel, by decide⟩
theorem VX3_lineOf : xMV mX3_lineOf := ⟨xTb_mem 540 (by decide +kernel) rfl, xTb_mem 541 (by decide +kernel) rfl⟩
def tX3_firstOf : List (Nat × Instr × Nat) := [(0, .iload_n 1, 1), (1, .aload_n 0, 1), (2, .getfield 65, 3), (5, .ishl, 1), (6, .ireturn, 1)]
theorem DX3_firstOf : xdt cX3_firstOf tX3_firstOf = true := by decide +kernel
abbrev mX3_firstOf : XM := (cX3_firstOf, yX3_firstOf, 2, (some .int), 259)
theorem FX3_firstOf : xMF mX3_firstOf 1 := ⟨by decide +kernel, xTb_mem 803 (by decide +kernel) rfl, xTb_mem 61 (by decide +kernel) rfl, by decide +kernel, by decide +kernel, by decide +kernel, by decide⟩
theorem VX3_firstOf : xMV mX3_firstOf := ⟨xTb_mem 801 (by decide +kernel) rfl, xTb_mem 802 (by decide +kernel) rfl⟩
def tX3_lineAddress : List (Nat × Instr × Nat) := [(0, .aload_n 0, 1), (1, .iload_n 1, 1), (2, .invokevirtual 175, 3), (5, .istore_n 2, 1), (6, .aload_n 0, 1), (7, .getfield 51, 3), (10, .iload_n 2, 1), (11, .invokevirtual 104, 3), (14, .ifCond .eq 12, 3), (17, .aload_n 0, 1), (18, .getfield 42, 3), (21, .iload_n 2, 1), (22, .iaload, 1), (23, .goto 7, 3), (26, .aload_n 0, 1), (27, .getfield 142, 3), (30, .ireturn, 1)]
theorem DX3_lineAddress : xdt cX3_lineAddress tX3_lineAddress = true := by decide +kernel
abbrev mX3_lineAddress : XM := (cX3_lineAddress, yX3_lineAddress, 3, (some .int), 259)
theorem FX3_lineAddress : xMF mX3_lineAddress 1 := ⟨by decide +kernel, xTb_mem 799 (by decide +kernel) rfl, xTb_mem 61 (by decide +kernel) rfl, by decide +kernel, by decide +kernel, by decide +kernel, by decide⟩
theorem VX3_lineAddress : xMV mX3_lineAddress := ⟨xTb_mem 797 (by decide +kernel) rfl, xTb_mem 798 (by decide +kernel) rfl⟩
def tX3_lineNibbles : List (Nat × Instr × Nat) := [(0, .aload_n 0, 1), (1, .iload_n 1, 1), (2, .iconst 1, 1), (3, .iadd, 1), (4, .invokevirtual 178, 3), (7, .aload_n 0, 1), (8, .iload_n 1, 1), (9, .invokevirtual 178, 3), (12, .isub, 1), (13, .ireturn, 1)]
theorem DX3_lineNibbles : xdt cX3_lineNibbles tX3_lineNibbles = true := by decide +kernel
abbrev mX3_lineNibbles : XM := (cX3_lineNibbles, yX3_lineNibbles, 2, (some .int), 259)
theorem FX3_lineNibbles : xMF mX3_lineNibbles 1 := ⟨by decide +kernel, xTb_mem 807 (by decide +kernel) rfl, xTb_mem 61 (by decide +kernel) rfl, by decide +kernel, by decide +kernel, by decide +kernel, by decide⟩
theorem VX3_lineNibbles : xMV mX3_lineNibbles := ⟨xTb_mem 805 (by decide +kernel) rfl, xTb_mem 806 (by decide +kernel) rfl⟩
end
section
def tX4_init : List (Nat × Instr × Nat) := [(0, .aload_n 0, 1), (1, .invokespecial 3, 3), (4, .aload_n 0, 1), (5, .bipush 48, 2), (7, .newarray .int, 2), (9, .putfield 9, 3), (12, .aload_n 0, 1), (13, .bipush 48, 2), (15, .newarray .int, 2), (17, .putfield 15, 3), (20, .aload_n 0, 1), (21, .bipush 48, 2), (23, .newarray .boolean, 2), (25, .putfield 18, 3), (28, .return_, 1)]
theorem DX4_init : xdt cX4_init tX4_init = true := by decide +kernel
abbrev mX4_init : XM := (cX4_init, yX4_init, 1, none, 259)
theorem FX4_init : xMF mX4_init 0 := ⟨by decide +kernel, xTb_mem 107 (by decide +kernel) rfl, xTb_mem 57 (by decide +kernel) rfl, by decide +kernel, by decide +kernel, by decide +kernel, by decide⟩
theorem VX4_init : xMI mX4_init := ⟨xTb_mem 106 (by decide +kernel) rfl, rfl⟩
def tX4_take : List (Nat × Instr × Nat) := [(0, .aload_n 0, 1), (1, .aload_n 1, 1), (2, .getfield 22, 3), (5, .putfield 28, 3), (8, .iconst 0, 1), (9, .istore_n 2, 1), (10, .iload_n 2, 1), (11, .aload_n 0, 1), (12, .getfield 28, 3), (15, .if_icmp .ge 38, 3), (18, .aload_n 0, 1), (19, .getfield 9, 3), (22, .iload_n 2, 1), (23, .aload_n 1, 1), (24, .iload_n 2, 1), (25, .invokevirtual 31, 3), (28, .iastore, 1), (29, .aload_n 0, 1), (30, .getfield 15, 3), (33, .iload_n 2, 1), (34, .aload_n 1, 1), (35, .iload_n 2, 1), (36, .invokevirtual 35, 3), (39, .iastore, 1), (40, .aload_n 0, 1), (41, .getfield 18, 3), (44, .iload_n 2, 1), (45, .iconst 0, 1), (46, .bastore, 1), (47, .iinc 2 1, 3), (50, .goto (-40), 3), (53, .iconst 0, 1), (54, .istore_n 2, 1), (55, .iload_n 2, 1), (56, .aload_n 0, 1), (57, .getfield 28, 3), (60, .if_icmp .ge 46, 3), (63, .aload_n 0, 1), (64, .getfield 9, 3), (67, .iload_n 2, 1), (68, .iaload, 1), (69, .invokestatic 38, 3), (72, .ifCond .eq 28, 3), (75, .aload_n 0, 1), (76, .aload_n 0, 1), (77, .getfield 15, 3), (80, .iload_n 2, 1), (81, .iaload, 1), (82, .invokevirtual 42, 3), (85, .ifCond .eq 15, 3), (88, .aload_n 0, 1), (89, .getfield 18, 3), (92, .aload_n 0, 1), (93, .getfield 15, 3), (96, .iload_n 2, 1), (97, .iaload, 1), (98, .iconst 1, 1), (99, .bastore, 1), (100, .iinc 2 1, 3), (103, .goto (-48), 3), (106, .return_, 1)]
theorem DX4_take : xdt cX4_take tX4_take = true := by decide +kernel
abbrev mX4_take : XM := (cX4_take, yX4_take, 3, none, 259)
theorem FX4_take : xMF mX4_take 1 := ⟨by decide +kernel, xTb_mem 513 (by decide +kernel) rfl, xTb_mem 57 (by decide +kernel) rfl, by decide +kernel, by decide +kernel, by decide +kernel, by decide⟩
theorem VX4_take : xMV mX4_take := ⟨xTb_mem 511 (by decide +kernel) rfl, xTb_mem 512 (by decide +kernel) rfl⟩
def tX4_has : List (Nat × Instr × Nat) := [(0, .iload_n 1, 1), (1, .ifCond .lt 15, 3), (4, .iload_n 1, 1), (5, .aload_n 0, 1), (6, .getfield 28, 3), (9, .if_icmp .ge 7, 3), (12, .iconst 1, 1), (13, .goto 4, 3), (16, .iconst 0, 1), (17, .ireturn, 1)]
theorem DX4_has : xdt cX4_has tX4_has = true := by decide +kernel
abbrev mX4_has : XM := (cX4_has, yX4_has, 2, (some .boolean), 259)
theorem FX4_has : xMF mX4_has 1 := ⟨by decide +kernel, xTb_mem 520 (by decide +kernel) rfl, xTb_mem 57 (by decide +kernel) rfl, by decide +kernel, by decide +kernel, by decide +kernel, by decide⟩
theorem VX4_has : xMV mX4_has := ⟨xTb_mem 518 (by decide +kernel) rfl, xTb_mem 519 (by decide +kernel) rfl⟩
def tX4_targetCount : List (Nat × Instr × Nat) := [(0, .iconst 0, 1), (1, .istore_n 1, 1), (2, .iconst 0, 1), (3, .istore_n 2, 1), (4, .iload_n 2, 1), (5, .aload_n 0, 1), (6, .getfield 28, 3), (9, .if_icmp .ge 21, 3), (12, .aload_n 0, 1), (13, .getfield 18, 3), (16, .iload_n 2, 1), (17, .baload, 1), (18, .ifCond .eq 6, 3), (21, .iinc 1 1, 3), (24, .iinc 2 1, 3), (27, .goto (-23), 3), (30, .iload_n 1, 1), (31, .ireturn, 1)]
theorem DX4_targetCount : xdt cX4_targetCount tX4_targetCount = true := by decide +kernel
abbrev mX4_targetCount : XM := (cX4_targetCount, yX4_targetCount, 3, (some .int), 259)
theorem FX4_targetCount : xMF mX4_targetCount 0 := ⟨by decide +kernel, xTb_mem 896 (by decide +kernel) rfl, xTb_mem 57 (by decide +kernel) rfl, by decide +kernel, by decide +kernel, by decide +kernel, by decide⟩
theorem VX4_targetCount : xMV mX4_targetCount := ⟨xTb_mem 894 (by decide +kernel) rfl, xTb_mem 895 (by decide +kernel) rfl⟩
def tX4_plainNibbles : List (Nat × Instr × Nat) := [(0, .iconst 0, 1), (1, .istore_n 1, 1), (2, .iconst 0, 1), (3, .istore_n 2, 1), (4, .iload_n 2, 1), (5, .aload_n 0, 1), (6, .getfield 28, 3), (9, .if_icmp .ge 21, 3), (12, .iload_n 1, 1), (13, .aload_n 0, 1), (14, .getfield 9, 3), (17, .iload_n 2, 1), (18, .iaload, 1), (19, .invokestatic 45, 3), (22, .iadd, 1), (23, .istore_n 1, 1), (24, .iinc 2 1, 3), (27, .goto (-23), 3), (30, .iload_n 1, 1), (31, .ireturn, 1)]
theorem DX4_plainNibbles : xdt cX4_plainNibbles tX4_plainNibbles = true := by decide +kernel
abbrev mX4_plainNibbles : XM := (cX4_plainNibbles, yX4_plainNibbles, 3, (some .int), 259)
theorem FX4_plainNibbles : xMF mX4_plainNibbles 0 := ⟨by decide +kernel, xTb_mem 770 (by decide +kernel) rfl, xTb_mem 57 (by decide +kernel) rfl, by decide +kernel, by decide +kernel, by decide +kernel, by decide⟩
theorem VX4_plainNibbles : xMV mX4_plainNibbles := ⟨xTb_mem 768 (by decide +kernel) rfl, xTb_mem 769 (by decide +kernel) rfl⟩
def tX5_init : List (Nat × Instr × Nat) := [(0, .aload_n 0, 1), (1, .invokespecial 3, 3), (4, .aload_n 0, 1), (5, .bipush 10, 2), (7, .newarray .int, 2), (9, .putfield 9, 3), (12, .aload_n 0, 1), (13, .bipush 12, 2), (15, .newarray .int, 2), (17, .putfield 15, 3), (20, .aload_n 0, 1), (21, .iconst 4, 1), (22, .newarray .int, 2), (24, .putfield 18, 3), (27, .aload_n 0, 1), (28, .aload_n 1, 1), (29, .putfield 21, 3), (32, .aload_n 0, 1), (33, .aload_n 2, 1), (34, .putfield 25, 3), (37, .return_, 1)]
theorem DX5_init : xdt cX5_init tX5_init = true := by decide +kernel
abbrev mX5_init : XM := (cX5_init, yX5_init, 3, none, 259)
theorem FX5_init : xMF mX5_init 2 := ⟨by decide +kernel, xTb_mem 310 (by decide +kernel) rfl, xTb_mem 63 (by decide +kernel) rfl, by decide +kernel, by decide +kernel, by decide +kernel, by decide⟩
theorem VX5_init : xMI mX5_init := ⟨xTb_mem 309 (by decide +kernel) rfl, rfl⟩
def tX5_begin : List (Nat × Instr × Nat) := [(0, .aload_n 0, 1), (1, .iconst 1, 1), (2, .putfield 29, 3), (5, .aload_n 0, 1), (6, .iconst 0, 1), (7, .putfield 33, 3), (10, .aload_n 0, 1), (11, .iload_n 1, 1), (12, .putfield 36, 3), (15, .aload_n 0, 1), (16, .iconst 0, 1), (17, .putfield 39, 3), (20, .aload_n 0, 1), (21, .iconst 0, 1), (22, .putfield 42, 3), (25, .aload_n 0, 1), (26, .iconst 0, 1), (27, .putfield 46, 3), (30, .aload_n 0, 1), (31, .iconst 0, 1), (32, .putfield 49, 3), (35, .aload_n 0, 1), (36, .iconst 0, 1), (37, .putfield 52, 3), (40, .aload_n 0, 1), (41, .iload_n 2, 1), (42, .iconst 4, 1), (43, .invokestatic 55, 3), (46, .putfield 61, 3), (49, .aload_n 0, 1), (50, .iconst 0, 1), (51, .putfield 64, 3), (54, .aload_n 0, 1), (55, .iconst 0, 1), (56, .putfield 67, 3), (59, .aload_n 0, 1), (60, .iconst 0, 1), (61, .putfield 70, 3), (64, .iconst 0, 1), (65, .istore_n 3, 1), (66, .iload_n 3, 1), (67, .bipush 10, 2), (69, .if_icmp .ge 16, 3), (72, .aload_n 0, 1), (73, .getfield 9, 3), (76, .iload_n 3, 1), (77, .iconst 0, 1), (78, .iastore, 1), (79, .iinc 3 1, 3), (82, .goto (-16), 3), (85, .return_, 1)]
theorem DX5_begin : xdt cX5_begin tX5_begin = true := by decide +kernel
abbrev mX5_begin : XM := (cX5_begin, yX5_begin, 4, none, 259)
theorem FX5_begin : xMF mX5_begin 2 := ⟨by decide +kernel, xTb_mem 822 (by decide +kernel) rfl, xTb_mem 63 (by decide +kernel) rfl, by decide +kernel, by decide +kernel, by decide +kernel, by decide⟩
theorem VX5_begin : xMV mX5_begin := ⟨xTb_mem 820 (by decide +kernel) rfl, xTb_mem 821 (by decide +kernel) rfl⟩
def tX5_end : List (Nat × Instr × Nat) := [(0, .aload_n 0, 1), (1, .iconst 0, 1), (2, .putfield 29, 3), (5, .return_, 1)]
theorem DX5_end : xdt cX5_end tX5_end = true := by decide +kernel
abbrev mX5_end : XM := (cX5_end, yX5_end, 1, none, 259)
theorem FX5_end : xMF mX5_end 0 := ⟨by decide +kernel, xTb_mem 631 (by decide +kernel) rfl, xTb_mem 63 (by decide +kernel) rfl, by decide +kernel, by decide +kernel, by decide +kernel, by decide⟩
theorem VX5_end : xMV mX5_end := ⟨xTb_mem 629 (by decide +kernel) rfl, xTb_mem 630 (by decide +kernel) rfl⟩
def tX5_go : List (Nat × Instr × Nat) := [(0, .aload_n 0, 1), (1, .getfield 49, 3), (4, .istore_n 2, 1), (5, .iconst 0, 1), (6, .istore_n 3, 1), (7, .iload_n 3, 1), (8, .iload_n 1, 1), (9, .if_icmp .ge 54, 3), (12, .aload_n 0, 1), (13, .getfield 33, 3), (16, .ifCond .ne 47, 3), (19, .aload_n 0, 1), (20, .getfield 21, 3), (23, .getfield 73, 3), (26, .aload_n 0, 1), (27, .getfield 42, 3), (30, .iaload, 1), (31, .bipush 6, 2), (33, .if_icmp .ne 20, 3), (36, .aload_n 0, 1), (37, .getfield 52, 3), (40, .bipush 12, 2), (42, .if_icmp .ne 11, 3), (45, .aload_n 0, 1), (46, .iconst 1, 1), (47, .putfield 33, 3), (50, .goto 7, 3), (53, .aload_n 0, 1), (54, .invokevirtual 78, 3), (57, .iinc 3 1, 3), (60, .goto (-53), 3), (63, .aload_n 0, 1), (64, .getfield 49, 3), (67, .iload_n 2, 1), (68, .isub, 1), (69, .ireturn, 1)]
theorem DX5_go : xdt cX5_go tX5_go = true := by decide +kernel
abbrev mX5_go : XM := (cX5_go, yX5_go, 4, (some .int), 259)
theorem FX5_go : xMF mX5_go 1 := ⟨by decide +kernel, xTb_mem 831 (by decide +kernel) rfl, xTb_mem 63 (by decide +kernel) rfl, by decide +kernel, by decide +kernel, by decide +kernel, by decide⟩
theorem VX5_go : xMV mX5_go := ⟨xTb_mem 829 (by decide +kernel) rfl, xTb_mem 830 (by decide +kernel) rfl⟩
def tX5_takeStep : List (Nat × Instr × Nat) := [(0, .aload_n 0, 1), (1, .getfield 36, 3), (4, .ifCond .eq 18, 3), (7, .aload_n 0, 1), (8, .aload_n 0, 1), (9, .getfield 25, 3), (12, .aload_n 0, 1), (13, .getfield 42, 3), (16, .invokevirtual 81, 3), (19, .invokevirtual 87, 3), (22, .aload_n 0, 1), (23, .getfield 21, 3), (26, .getfield 73, 3), (29, .aload_n 0, 1), (30, .getfield 42, 3), (33, .iaload, 1), (34, .istore_n 1, 1), (35, .aload_n 0, 1), (36, .getfield 21, 3), (39, .getfield 91, 3), (42, .aload_n 0, 1), (43, .getfield 42, 3), (46, .iaload, 1), (47, .istore_n 2, 1), (48, .aload_n 0, 1), (49, .dup, 1), (50, .getfield 49, 3), (53, .iconst 1, 1), (54, .iadd, 1), (55, .putfield 49, 3), (58, .aload_n 0, 1), (59, .dup, 1), (60, .getfield 42, 3), (63, .iconst 1, 1), (64, .iadd, 1), (65, .putfield 42, 3), (68, .iload_n 1, 1), (69, .invokestatic 94, 3), (72, .ifCond .eq 12, 3), (75, .aload_n 0, 1), (76, .iload_n 1, 1), (77, .iload_n 2, 1), (78, .invokevirtual 98, 3), (81, .goto 9, 3), (84, .aload_n 0, 1), (85, .iload_n 1, 1), (86, .iload_n 2, 1), (87, .invokevirtual 102, 3), (90, .aload_n 0, 1), (91, .getfield 21, 3), (94, .aload_n 0, 1), (95, .getfield 42, 3), (98, .invokevirtual 105, 3), (101, .ifCond .ne 8, 3), (104, .aload_n 0, 1), (105, .iconst 1, 1), (106, .putfield 33, 3), (109, .return_, 1)]
theorem DX5_takeStep : xdt cX5_takeStep tX5_takeStep = true := by decide +kernel
abbrev mX5_takeStep : XM := (cX5_takeStep, yX5_takeStep, 3, none, 259)
theorem FX5_takeStep : xMF mX5_takeStep 0 := ⟨by decide +kernel, xTb_mem 835 (by decide +kernel) rfl, xTb_mem 63 (by decide +kernel) rfl, by decide +kernel, by decide +kernel, by decide +kernel, by decide⟩
theorem VX5_takeStep : xMV mX5_takeStep := ⟨xTb_mem 834 (by decide +kernel) rfl, xTb_mem 15 (by decide +kernel) rfl⟩
def tX5_work : List (Nat × Instr × Nat) := [(0, .iload_n 1, 1), (1, .tableswitch 131 0 5 #[39, 55, 71, 84, 97, 110], 39), (40, .aload_n 0, 1), (41, .aload_n 0, 1), (42, .getfield 46, 3), (45, .iload_n 2, 1), (46, .iadd, 1), (47, .ldc 108, 2), (49, .iand, 1), (50, .putfield 46, 3), (53, .goto 92, 3), (56, .aload_n 0, 1), (57, .aload_n 0, 1), (58, .getfield 46, 3), (61, .iload_n 2, 1), (62, .imul, 1), (63, .ldc 108, 2), (65, .iand, 1), (66, .putfield 46, 3), (69, .goto 76, 3), (72, .aload_n 0, 1), (73, .aload_n 0, 1), (74, .getfield 46, 3), (77, .iload_n 2, 1), (78, .ixor, 1), (79, .putfield 46, 3), (82, .goto 63, 3), (85, .aload_n 0, 1), (86, .getfield 9, 3), (89, .iload_n 2, 1), (90, .aload_n 0, 1), (91, .getfield 46, 3), (94, .iastore, 1), (95, .goto 50, 3), (98, .aload_n 0, 1), (99, .aload_n 0, 1), (100, .getfield 9, 3), (103, .iload_n 2, 1), (104, .iaload, 1), (105, .putfield 46, 3), (108, .goto 37, 3), (111, .aload_n 0, 1), (112, .aload_n 0, 1), (113, .getfield 46, 3), (116, .aload_n 0, 1), (117, .getfield 9, 3), (120, .iload_n 2, 1), (121, .iaload, 1), (122, .iadd, 1), (123, .ldc 108, 2), (125, .iand, 1), (126, .putfield 46, 3), (129, .goto 16, 3), (132, .aload_n 0, 1), (133, .aload_n 0, 1), (134, .getfield 46, 3), (137, .iload_n 2, 1), (138, .iadd, 1), (139, .ldc 108, 2), (141, .iand, 1), (142, .invokevirtual 109, 3), (145, .return_, 1)]
theorem DX5_work : xdt cX5_work tX5_work = true := by decide +kernel
abbrev mX5_work : XM := (cX5_work, yX5_work, 3, none, 259)
theorem FX5_work : xMF mX5_work 2 := ⟨by decide +kernel, xTb_mem 850 (by decide +kernel) rfl, xTb_mem 63 (by decide +kernel) rfl, by decide +kernel, by decide +kernel, by decide +kernel, by decide⟩
theorem VX5_work : xMV mX5_work := ⟨xTb_mem 849 (by decide +kernel) rfl, xTb_mem 18 (by decide +kernel) rfl⟩
def tX5_tellOut : List (Nat × Instr × Nat) := [(0, .aload_n 0, 1), (1, .getfield 52, 3), (4, .bipush 12, 2), (6, .if_icmp .ge 23, 3), (9, .aload_n 0, 1), (10, .getfield 15, 3), (13, .aload_n 0, 1), (14, .getfield 52, 3), (17, .iload_n 1, 1), (18, .iastore, 1), (19, .aload_n 0, 1), (20, .dup, 1), (21, .getfield 52, 3), (24, .iconst 1, 1), (25, .iadd, 1), (26, .putfield 52, 3), (29, .return_, 1)]
theorem DX5_tellOut : xdt cX5_tellOut tX5_tellOut = true := by decide +kernel
abbrev mX5_tellOut : XM := (cX5_tellOut, yX5_tellOut, 2, none, 259)
theorem FX5_tellOut : xMF mX5_tellOut 1 := ⟨by decide +kernel, xTb_mem 855 (by decide +kernel) rfl, xTb_mem 63 (by decide +kernel) rfl, by decide +kernel, by decide +kernel, by decide +kernel, by decide⟩
theorem VX5_tellOut : xMV mX5_tellOut := ⟨xTb_mem 854 (by decide +kernel) rfl, xTb_mem 19 (by decide +kernel) rfl⟩
def tX5_turn : List (Nat × Instr × Nat) := [(0, .iload_n 1, 1), (1, .tableswitch 80 7 10 #[31, 39, 61, 73], 31), (32, .aload_n 0, 1), (33, .iload_n 2, 1), (34, .putfield 42, 3), (37, .goto 49, 3), (40, .aload_n 0, 1), (41, .aload_n 0, 1), (42, .getfield 46, 3), (45, .ifCond .ne 7, 3), (48, .iload_n 2, 1), (49, .goto 7, 3), (52, .aload_n 0, 1), (53, .getfield 42, 3), (56, .putfield 42, 3), (59, .goto 27, 3), (62, .aload_n 0, 1), (63, .aload_n 0, 1), (64, .iload_n 2, 1), (65, .invokevirtual 112, 3), (68, .putfield 46, 3), (71, .goto 15, 3), (74, .aload_n 0, 1), (75, .invokevirtual 115, 3), (78, .goto 8, 3), (81, .aload_n 0, 1), (82, .iconst 1, 1), (83, .putfield 33, 3), (86, .return_, 1)]
theorem DX5_turn : xdt cX5_turn tX5_turn = true := by decide +kernel
abbrev mX5_turn : XM := (cX5_turn, yX5_turn, 3, none, 259)
theorem FX5_turn : xMF mX5_turn 2 := ⟨by decide +kernel, xTb_mem 859 (by decide +kernel) rfl, xTb_mem 63 (by decide +kernel) rfl, by decide +kernel, by decide +kernel, by decide +kernel, by decide⟩
theorem VX5_turn : xMV mX5_turn := ⟨xTb_mem 858 (by decide +kernel) rfl, xTb_mem 20 (by decide +kernel) rfl⟩
def tX5_addressOf : List (Nat × Instr × Nat) := [(0, .aload_n 0, 1), (1, .getfield 36, 3), (4, .ifCond .eq 26, 3), (7, .aload_n 0, 1), (8, .getfield 21, 3), (11, .iload_n 1, 1), (12, .invokevirtual 105, 3), (15, .ifCond .eq 15, 3), (18, .aload_n 0, 1), (19, .getfield 25, 3), (22, .getfield 118, 3), (25, .iload_n 1, 1), (26, .iaload, 1), (27, .goto 4, 3), (30, .iload_n 1, 1), (31, .ireturn, 1)]
theorem DX5_addressOf : xdt cX5_addressOf tX5_addressOf = true := by decide +kernel
abbrev mX5_addressOf : XM := (cX5_addressOf, yX5_addressOf, 2, (some .int), 259)
theorem FX5_addressOf : xMF mX5_addressOf 1 := ⟨by decide +kernel, xTb_mem 863 (by decide +kernel) rfl, xTb_mem 63 (by decide +kernel) rfl, by decide +kernel, by decide +kernel, by decide +kernel, by decide⟩
theorem VX5_addressOf : xMV mX5_addressOf := ⟨xTb_mem 862 (by decide +kernel) rfl, xTb_mem 21 (by decide +kernel) rfl⟩
def tX5_jumpBySum : List (Nat × Instr × Nat) := [(0, .iconst 0, 1), (1, .istore_n 1, 1), (2, .iload_n 1, 1), (3, .aload_n 0, 1), (4, .getfield 21, 3), (7, .getfield 121, 3), (10, .if_icmp .ge 57, 3), (13, .aload_n 0, 1), (14, .getfield 21, 3), (17, .getfield 73, 3), (20, .iload_n 1, 1), (21, .iaload, 1), (22, .bipush 9, 2), (24, .if_icmp .ne 37, 3), (27, .aload_n 0, 1), (28, .aload_n 0, 1), (29, .getfield 21, 3), (32, .getfield 91, 3), (35, .iload_n 1, 1), (36, .iaload, 1), (37, .invokevirtual 112, 3), (40, .aload_n 0, 1), (41, .getfield 46, 3), (44, .if_icmp .ne 17, 3), (47, .aload_n 0, 1), (48, .aload_n 0, 1), (49, .getfield 21, 3), (52, .getfield 91, 3), (55, .iload_n 1, 1), (56, .iaload, 1), (57, .putfield 42, 3), (60, .return_, 1), (61, .iinc 1 1, 3), (64, .goto (-62), 3), (67, .aload_n 0, 1), (68, .iconst 1, 1), (69, .putfield 39, 3), (72, .aload_n 0, 1), (73, .iconst 1, 1), (74, .putfield 33, 3), (77, .return_, 1)]
theorem DX5_jumpBySum : xdt cX5_jumpBySum tX5_jumpBySum = true := by decide +kernel
abbrev mX5_jumpBySum : XM := (cX5_jumpBySum, yX5_jumpBySum, 2, none, 259)
theorem FX5_jumpBySum : xMF mX5_jumpBySum 0 := ⟨by decide +kernel, xTb_mem 868 (by decide +kernel) rfl, xTb_mem 63 (by decide +kernel) rfl, by decide +kernel, by decide +kernel, by decide +kernel, by decide⟩
theorem VX5_jumpBySum : xMV mX5_jumpBySum := ⟨xTb_mem 867 (by decide +kernel) rfl, xTb_mem 22 (by decide +kernel) rfl⟩
def tX5_useLine : List (Nat × Instr × Nat) := [(0, .aload_n 0, 1), (1, .iload_n 1, 1), (2, .invokevirtual 124, 3), (5, .istore_n 2, 1), (6, .iload_n 2, 1), (7, .ifCond .ge 54, 3), (10, .aload_n 0, 1), (11, .dup, 1), (12, .getfield 67, 3), (15, .iconst 1, 1), (16, .iadd, 1), (17, .putfield 67, 3), (20, .aload_n 0, 1), (21, .dup, 1), (22, .getfield 70, 3), (25, .aload_n 0, 1), (26, .getfield 25, 3), (29, .iload_n 1, 1), (30, .invokevirtual 127, 3), (33, .iadd, 1), (34, .putfield 70, 3), (37, .aload_n 0, 1), (38, .aload_n 0, 1), (39, .getfield 64, 3), (42, .iconst 1, 1), (43, .iadd, 1), (44, .aload_n 0, 1), (45, .getfield 61, 3), (48, .invokestatic 55, 3), (51, .putfield 64, 3), (54, .aload_n 0, 1), (55, .getfield 64, 3), (58, .iconst 1, 1), (59, .isub, 1), (60, .istore_n 2, 1), (61, .iload_n 2, 1), (62, .istore_n 3, 1), (63, .iload_n 3, 1), (64, .ifCond .le 23, 3), (67, .aload_n 0, 1), (68, .getfield 18, 3), (71, .iload_n 3, 1), (72, .aload_n 0, 1), (73, .getfield 18, 3), (76, .iload_n 3, 1), (77, .iconst 1, 1), (78, .isub, 1), (79, .iaload, 1), (80, .iastore, 1), (81, .iinc 3 (-1), 3), (84, .goto (-21), 3), (87, .aload_n 0, 1), (88, .getfield 18, 3), (91, .iconst 0, 1), (92, .iload_n 1, 1), (93, .iastore, 1), (94, .return_, 1)]
theorem DX5_useLine : xdt cX5_useLine tX5_useLine = true := by decide +kernel
abbrev mX5_useLine : XM := (cX5_useLine, yX5_useLine, 4, none, 259)
theorem FX5_useLine : xMF mX5_useLine 1 := ⟨by decide +kernel, xTb_mem 840 (by decide +kernel) rfl, xTb_mem 63 (by decide +kernel) rfl, by decide +kernel, by decide +kernel, by decide +kernel, by decide⟩
theorem VX5_useLine : xMV mX5_useLine := ⟨xTb_mem 839 (by decide +kernel) rfl, xTb_mem 16 (by decide +kernel) rfl⟩
def tX5_placeOf : List (Nat × Instr × Nat) := [(0, .iconst 0, 1), (1, .istore_n 2, 1), (2, .iload_n 2, 1), (3, .aload_n 0, 1), (4, .getfield 64, 3), (7, .if_icmp .ge 21, 3), (10, .aload_n 0, 1), (11, .getfield 18, 3), (14, .iload_n 2, 1), (15, .iaload, 1), (16, .iload_n 1, 1), (17, .if_icmp .ne 5, 3), (20, .iload_n 2, 1), (21, .ireturn, 1), (22, .iinc 2 1, 3), (25, .goto (-23), 3), (28, .bipush (-4), 2), (30, .ireturn, 1)]
theorem DX5_placeOf : xdt cX5_placeOf tX5_placeOf = true := by decide +kernel
abbrev mX5_placeOf : XM := (cX5_placeOf, yX5_placeOf, 3, (some .int), 259)
theorem FX5_placeOf : xMF mX5_placeOf 1 := ⟨by decide +kernel, xTb_mem 844 (by decide +kernel) rfl, xTb_mem 63 (by decide +kernel) rfl, by decide +kernel, by decide +kernel, by decide +kernel, by decide⟩
theorem VX5_placeOf : xMV mX5_placeOf := ⟨xTb_mem 843 (by decide +kernel) rfl, xTb_mem 17 (by decide +kernel) rfl⟩
def tX5_tell : List (Nat × Instr × Nat) := [(0, .iload_n 1, 1), (1, .tableswitch 107 0 7 #[47, 64, 69, 74, 79, 92, 97, 102], 47), (48, .aload_n 0, 1), (49, .getfield 33, 3), (52, .ifCond .eq 8, 3), (55, .bipush (-4), 2), (57, .goto 7, 3), (60, .aload_n 0, 1), (61, .getfield 42, 3), (64, .ireturn, 1), (65, .aload_n 0, 1), (66, .getfield 46, 3), (69, .ireturn, 1), (70, .aload_n 0, 1), (71, .getfield 49, 3), (74, .ireturn, 1), (75, .aload_n 0, 1), (76, .getfield 52, 3), (79, .ireturn, 1), (80, .aload_n 0, 1), (81, .getfield 39, 3), (84, .ifCond .eq 7, 3), (87, .iconst 1, 1), (88, .goto 4, 3), (91, .iconst 0, 1), (92, .ireturn, 1), (93, .aload_n 0, 1), (94, .getfield 67, 3), (97, .ireturn, 1), (98, .aload_n 0, 1), (99, .getfield 70, 3), (102, .ireturn, 1), (103, .aload_n 0, 1), (104, .getfield 64, 3), (107, .ireturn, 1), (108, .aload_n 0, 1), (109, .getfield 36, 3), (112, .ifCond .eq 7, 3), (115, .iconst 1, 1), (116, .goto 4, 3), (119, .iconst 0, 1), (120, .ireturn, 1)]
theorem DX5_tell : xdt cX5_tell tX5_tell = true := by decide +kernel
abbrev mX5_tell : XM := (cX5_tell, yX5_tell, 2, (some .int), 259)
theorem FX5_tell : xMF mX5_tell 1 := ⟨by decide +kernel, xTb_mem 876 (by decide +kernel) rfl, xTb_mem 63 (by decide +kernel) rfl, by decide +kernel, by decide +kernel, by decide +kernel, by decide⟩
theorem VX5_tell : xMV mX5_tell := ⟨xTb_mem 874 (by decide +kernel) rfl, xTb_mem 875 (by decide +kernel) rfl⟩
def tX6_init : List (Nat × Instr × Nat) := [(0, .aload_n 0, 1), (1, .invokespecial 3, 3), (4, .aload_n 0, 1), (5, .bipush 8, 2), (7, .anewarray 9, 3), (10, .putfield 11, 3), (13, .aload_n 0, 1), (14, .bipush 8, 2), (16, .putfield 17, 3), (19, .aload_n 0, 1), (20, .iconst 2, 1), (21, .putfield 21, 3), (24, .iconst 0, 1), (25, .istore_n 1, 1), (26, .iload_n 1, 1), (27, .bipush 8, 2), (29, .if_icmp .ge 22, 3), (32, .aload_n 0, 1), (33, .getfield 11, 3), (36, .iload_n 1, 1), (37, .new 9, 3), (40, .dup, 1), (41, .invokespecial 24, 3), (44, .aastore, 1), (45, .iinc 1 1, 3), (48, .goto (-22), 3), (51, .return_, 1)]
theorem DX6_init : xdt cX6_init tX6_init = true := by decide +kernel
abbrev mX6_init : XM := (cX6_init, yX6_init, 2, none, 259)
theorem FX6_init : xMF mX6_init 0 := ⟨by decide +kernel, xTb_mem 142 (by decide +kernel) rfl, xTb_mem 58 (by decide +kernel) rfl, by decide +kernel, by decide +kernel, by decide +kernel, by decide⟩
theorem VX6_init : xMI mX6_init := ⟨xTb_mem 141 (by decide +kernel) rfl, rfl⟩
def tX6_copy : List (Nat × Instr × Nat) := [(0, .aload_n 0, 1), (1, .aload_n 1, 1), (2, .getfield 25, 3), (5, .putfield 25, 3), (8, .aload_n 0, 1), (9, .aload_n 1, 1), (10, .getfield 17, 3), (13, .putfield 17, 3), (16, .aload_n 0, 1), (17, .aload_n 1, 1), (18, .getfield 21, 3), (21, .putfield 21, 3), (24, .iconst 0, 1), (25, .istore_n 2, 1), (26, .iload_n 2, 1), (27, .aload_n 0, 1), (28, .getfield 25, 3), (31, .if_icmp .ge 24, 3), (34, .aload_n 0, 1), (35, .getfield 11, 3), (38, .iload_n 2, 1), (39, .aaload, 1), (40, .aload_n 1, 1), (41, .getfield 11, 3), (44, .iload_n 2, 1), (45, .aaload, 1), (46, .invokevirtual 28, 3), (49, .iinc 2 1, 3), (52, .goto (-26), 3), (55, .return_, 1)]
theorem DX6_copy : xdt cX6_copy tX6_copy = true := by decide +kernel
abbrev mX6_copy : XM := (cX6_copy, yX6_copy, 3, none, 259)
theorem FX6_copy : xMF mX6_copy 1 := ⟨by decide +kernel, xTb_mem 665 (by decide +kernel) rfl, xTb_mem 58 (by decide +kernel) rfl, by decide +kernel, by decide +kernel, by decide +kernel, by decide⟩
theorem VX6_copy : xMV mX6_copy := ⟨xTb_mem 663 (by decide +kernel) rfl, xTb_mem 664 (by decide +kernel) rfl⟩
def tX6_has : List (Nat × Instr × Nat) := [(0, .iload_n 1, 1), (1, .ifCond .lt 15, 3), (4, .iload_n 1, 1), (5, .aload_n 0, 1), (6, .getfield 25, 3), (9, .if_icmp .ge 7, 3), (12, .iconst 1, 1), (13, .goto 4, 3), (16, .iconst 0, 1), (17, .ireturn, 1)]
theorem DX6_has : xdt cX6_has tX6_has = true := by decide +kernel
abbrev mX6_has : XM := (cX6_has, yX6_has, 2, (some .boolean), 259)
theorem FX6_has : xMF mX6_has 1 := ⟨by decide +kernel, xTb_mem 685 (by decide +kernel) rfl, xTb_mem 58 (by decide +kernel) rfl, by decide +kernel, by decide +kernel, by decide +kernel, by decide⟩
theorem VX6_has : xMV mX6_has := ⟨xTb_mem 683 (by decide +kernel) rfl, xTb_mem 684 (by decide +kernel) rfl⟩
def tX6_append : List (Nat × Instr × Nat) := [(0, .aload_n 0, 1), (1, .getfield 25, 3), (4, .bipush 8, 2), (6, .if_icmp .ge 30, 3), (9, .aload_n 0, 1), (10, .getfield 11, 3), (13, .aload_n 0, 1), (14, .getfield 25, 3), (17, .aaload, 1), (18, .aload_n 1, 1), (19, .iload_n 2, 1), (20, .iload_n 3, 1), (21, .iload 4, 2), (23, .invokevirtual 32, 3), (26, .aload_n 0, 1), (27, .dup, 1), (28, .getfield 25, 3), (31, .iconst 1, 1), (32, .iadd, 1), (33, .putfield 25, 3), (36, .return_, 1)]
theorem DX6_append : xdt cX6_append tX6_append = true := by decide +kernel
abbrev mX6_append : XM := (cX6_append, yX6_append, 5, none, 259)
theorem FX6_append : xMF mX6_append 4 := ⟨by decide +kernel, xTb_mem 673 (by decide +kernel) rfl, xTb_mem 58 (by decide +kernel) rfl, by decide +kernel, by decide +kernel, by decide +kernel, by decide⟩
theorem VX6_append : xMV mX6_append := ⟨xTb_mem 671 (by decide +kernel) rfl, xTb_mem 672 (by decide +kernel) rfl⟩
def tX6_remove : List (Nat × Instr × Nat) := [(0, .aload_n 0, 1), (1, .dup, 1), (2, .getfield 25, 3), (5, .iconst 1, 1), (6, .isub, 1), (7, .putfield 25, 3), (10, .iload_n 1, 1), (11, .istore_n 2, 1), (12, .iload_n 2, 1), (13, .aload_n 0, 1), (14, .getfield 25, 3), (17, .if_icmp .ge 26, 3), (20, .aload_n 0, 1), (21, .getfield 11, 3), (24, .iload_n 2, 1), (25, .aaload, 1), (26, .aload_n 0, 1), (27, .getfield 11, 3), (30, .iload_n 2, 1), (31, .iconst 1, 1), (32, .iadd, 1), (33, .aaload, 1), (34, .invokevirtual 28, 3), (37, .iinc 2 1, 3), (40, .goto (-28), 3), (43, .return_, 1)]
theorem DX6_remove : xdt cX6_remove tX6_remove = true := by decide +kernel
abbrev mX6_remove : XM := (cX6_remove, yX6_remove, 3, none, 259)
theorem FX6_remove : xMF mX6_remove 1 := ⟨by decide +kernel, xTb_mem 689 (by decide +kernel) rfl, xTb_mem 58 (by decide +kernel) rfl, by decide +kernel, by decide +kernel, by decide +kernel, by decide⟩
theorem VX6_remove : xMV mX6_remove := ⟨xTb_mem 687 (by decide +kernel) rfl, xTb_mem 688 (by decide +kernel) rfl⟩
def tX6_hasAlike : List (Nat × Instr × Nat) := [(0, .iload 4, 2), (2, .ifCond .ge 8, 3), (5, .bipush (-4), 2), (7, .goto 5, 3), (10, .iload 4, 2), (12, .istore 5, 2), (14, .iconst 0, 1), (15, .istore 6, 2), (17, .iload 6, 2), (19, .aload_n 0, 1), (20, .getfield 25, 3), (23, .if_icmp .ge 49, 3), (26, .aload_n 0, 1), (27, .getfield 11, 3), (30, .iload 6, 2), (32, .aaload, 1), (33, .astore 7, 2), (35, .aload 7, 2), (37, .getfield 36, 3), (40, .iload_n 3, 1), (41, .if_icmp .ne 25, 3), (44, .aload 7, 2), (46, .getfield 39, 3), (49, .iload 5, 2), (51, .if_icmp .ne 15, 3), (54, .aload 7, 2), (56, .aload_n 1, 1), (57, .iload_n 2, 1), (58, .invokevirtual 42, 3), (61, .ifCond .eq 5, 3), (64, .iconst 1, 1), (65, .ireturn, 1), (66, .iinc 6 1, 3), (69, .goto (-52), 3), (72, .iconst 0, 1), (73, .ireturn, 1)]
theorem DX6_hasAlike : xdt cX6_hasAlike tX6_hasAlike = true := by decide +kernel
abbrev mX6_hasAlike : XM := (cX6_hasAlike, yX6_hasAlike, 8, (some .boolean), 259)
theorem FX6_hasAlike : xMF mX6_hasAlike 4 := ⟨by decide +kernel, xTb_mem 656 (by decide +kernel) rfl, xTb_mem 58 (by decide +kernel) rfl, by decide +kernel, by decide +kernel, by decide +kernel, by decide⟩
theorem VX6_hasAlike : xMV mX6_hasAlike := ⟨xTb_mem 654 (by decide +kernel) rfl, xTb_mem 655 (by decide +kernel) rfl⟩
def tX6_tableNibbles : List (Nat × Instr × Nat) := [(0, .iconst 0, 1), (1, .istore_n 1, 1), (2, .iconst 0, 1), (3, .istore_n 2, 1), (4, .iload_n 2, 1), (5, .aload_n 0, 1), (6, .getfield 25, 3), (9, .if_icmp .ge 24, 3), (12, .iload_n 1, 1), (13, .aload_n 0, 1), (14, .getfield 11, 3), (17, .iload_n 2, 1), (18, .aaload, 1), (19, .getfield 36, 3), (22, .invokestatic 46, 3), (25, .iadd, 1), (26, .istore_n 1, 1), (27, .iinc 2 1, 3), (30, .goto (-26), 3), (33, .iload_n 1, 1), (34, .ireturn, 1)]
theorem DX6_tableNibbles : xdt cX6_tableNibbles tX6_tableNibbles = true := by decide +kernel
abbrev mX6_tableNibbles : XM := (cX6_tableNibbles, yX6_tableNibbles, 3, (some .int), 259)
theorem FX6_tableNibbles : xMF mX6_tableNibbles 0 := ⟨by decide +kernel, xTb_mem 765 (by decide +kernel) rfl, xTb_mem 58 (by decide +kernel) rfl, by decide +kernel, by decide +kernel, by decide +kernel, by decide⟩
theorem VX6_tableNibbles : xMV mX6_tableNibbles := ⟨xTb_mem 763 (by decide +kernel) rfl, xTb_mem 764 (by decide +kernel) rfl⟩
def tX7_init : List (Nat × Instr × Nat) := [(0, .aload_n 0, 1), (1, .invokespecial 3, 3), (4, .aload_n 0, 1), (5, .sipush 200, 3), (8, .newarray .char, 2), (10, .putfield 9, 3), (13, .aload_n 0, 1), (14, .bipush 48, 2), (16, .newarray .int, 2), (18, .putfield 15, 3), (21, .return_, 1)]
theorem DX7_init : xdt cX7_init tX7_init = true := by decide +kernel
abbrev mX7_init : XM := (cX7_init, yX7_init, 1, none, 259)
theorem FX7_init : xMF mX7_init 0 := ⟨by decide +kernel, xTb_mem 83 (by decide +kernel) rfl, xTb_mem 56 (by decide +kernel) rfl, by decide +kernel, by decide +kernel, by decide +kernel, by decide⟩
theorem VX7_init : xMI mX7_init := ⟨xTb_mem 82 (by decide +kernel) rfl, rfl⟩
def tX7_append : List (Nat × Instr × Nat) := [(0, .aload_n 0, 1), (1, .getfield 19, 3), (4, .sipush 200, 3), (7, .if_icmp .lt 6, 3), (10, .bipush (-3), 2), (12, .ireturn, 1), (13, .aload_n 0, 1), (14, .getfield 9, 3), (17, .aload_n 0, 1), (18, .getfield 19, 3), (21, .iload_n 1, 1), (22, .castore, 1), (23, .aload_n 0, 1), (24, .dup, 1), (25, .getfield 19, 3), (28, .iconst 1, 1), (29, .iadd, 1), (30, .putfield 19, 3), (33, .aload_n 0, 1), (34, .getfield 19, 3), (37, .ireturn, 1)]
theorem DX7_append : xdt cX7_append tX7_append = true := by decide +kernel
abbrev mX7_append : XM := (cX7_append, yX7_append, 2, (some .int), 259)
theorem FX7_append : xMF mX7_append 1 := ⟨by decide +kernel, xTb_mem 423 (by decide +kernel) rfl, xTb_mem 56 (by decide +kernel) rfl, by decide +kernel, by decide +kernel, by decide +kernel, by decide⟩
theorem VX7_append : xMV mX7_append := ⟨xTb_mem 421 (by decide +kernel) rfl, xTb_mem 422 (by decide +kernel) rfl⟩
def tX7_empty : List (Nat × Instr × Nat) := [(0, .aload_n 0, 1), (1, .getfield 19, 3), (4, .istore_n 1, 1), (5, .aload_n 0, 1), (6, .iconst 0, 1), (7, .putfield 19, 3), (10, .iload_n 1, 1), (11, .ireturn, 1)]
theorem DX7_empty : xdt cX7_empty tX7_empty = true := by decide +kernel
abbrev mX7_empty : XM := (cX7_empty, yX7_empty, 2, (some .int), 259)
theorem FX7_empty : xMF mX7_empty 0 := ⟨by decide +kernel, xTb_mem 524 (by decide +kernel) rfl, xTb_mem 56 (by decide +kernel) rfl, by decide +kernel, by decide +kernel, by decide +kernel, by decide⟩
theorem VX7_empty : xMV mX7_empty := ⟨xTb_mem 522 (by decide +kernel) rfl, xTb_mem 523 (by decide +kernel) rfl⟩
def tX7_findFault : List (Nat × Instr × Nat) := [(0, .aload_n 0, 1), (1, .iconst 0, 1), (2, .putfield 23, 3), (5, .iconst 0, 1), (6, .istore_n 1, 1), (7, .iconst 0, 1), (8, .istore_n 2, 1), (9, .iload_n 2, 1), (10, .sipush 200, 3), (13, .if_icmp .ge 57, 3), (16, .iload_n 1, 1), (17, .aload_n 0, 1), (18, .getfield 19, 3), (21, .if_icmp .ge 49, 3), (24, .iload_n 2, 1), (25, .bipush 48, 2), (27, .if_icmp .ge 11, 3), (30, .aload_n 0, 1), (31, .iload_n 1, 1), (32, .invokevirtual 26, 3), (35, .goto 4, 3), (38, .iconst 0, 1), (39, .istore_n 3, 1), (40, .iload_n 3, 1), (41, .ifCond .ne 5, 3), (44, .iload_n 1, 1), (45, .ireturn, 1), (46, .aload_n 0, 1), (47, .getfield 15, 3), (50, .iload_n 2, 1), (51, .iload_n 1, 1), (52, .iastore, 1), (53, .aload_n 0, 1), (54, .iload_n 2, 1), (55, .iconst 1, 1), (56, .iadd, 1), (57, .putfield 23, 3), (60, .iload_n 1, 1), (61, .iload_n 3, 1), (62, .iadd, 1), (63, .istore_n 1, 1), (64, .iinc 2 1, 3), (67, .goto (-58), 3), (70, .aload_n 0, 1), (71, .invokevirtual 30, 3), (74, .ireturn, 1)]
theorem DX7_findFault : xdt cX7_findFault tX7_findFault = true := by decide +kernel
abbrev mX7_findFault : XM := (cX7_findFault, yX7_findFault, 4, (some .int), 259)
theorem FX7_findFault : xMF mX7_findFault 0 := ⟨by decide +kernel, xTb_mem 427 (by decide +kernel) rfl, xTb_mem 56 (by decide +kernel) rfl, by decide +kernel, by decide +kernel, by decide +kernel, by decide⟩
theorem VX7_findFault : xMV mX7_findFault := ⟨xTb_mem 425 (by decide +kernel) rfl, xTb_mem 426 (by decide +kernel) rfl⟩
def tX7_findLostTarget : List (Nat × Instr × Nat) := [(0, .iconst 0, 1), (1, .istore_n 1, 1), (2, .iload_n 1, 1), (3, .aload_n 0, 1), (4, .getfield 23, 3), (7, .if_icmp .ge 39, 3), (10, .aload_n 0, 1), (11, .iload_n 1, 1), (12, .invokevirtual 34, 3), (15, .invokestatic 37, 3), (18, .ifCond .eq 22, 3), (21, .aload_n 0, 1), (22, .iload_n 1, 1), (23, .invokevirtual 41, 3), (26, .aload_n 0, 1), (27, .getfield 23, 3), (30, .if_icmp .lt 10, 3), (33, .aload_n 0, 1), (34, .getfield 15, 3), (37, .iload_n 1, 1), (38, .iaload, 1), (39, .ireturn, 1), (40, .iinc 1 1, 3), (43, .goto (-41), 3), (46, .bipush (-4), 2), (48, .ireturn, 1)]
theorem DX7_findLostTarget : xdt cX7_findLostTarget tX7_findLostTarget = true := by decide +kernel
abbrev mX7_findLostTarget : XM := (cX7_findLostTarget, yX7_findLostTarget, 2, (some .int), 259)
theorem FX7_findLostTarget : xMF mX7_findLostTarget 0 := ⟨by decide +kernel, xTb_mem 501 (by decide +kernel) rfl, xTb_mem 56 (by decide +kernel) rfl, by decide +kernel, by decide +kernel, by decide +kernel, by decide⟩
theorem VX7_findLostTarget : xMV mX7_findLostTarget := ⟨xTb_mem 500 (by decide +kernel) rfl, xTb_mem 1 (by decide +kernel) rfl⟩
def tX7_widthAt : List (Nat × Instr × Nat) := [(0, .ldc 44, 2), (2, .aload_n 0, 1), (3, .getfield 9, 3), (6, .iload_n 1, 1), (7, .caload, 1), (8, .invokevirtual 46, 3), (11, .istore_n 2, 1), (12, .iload_n 2, 1), (13, .ifCond .ge 5, 3), (16, .iconst 0, 1), (17, .ireturn, 1), (18, .iload_n 2, 1), (19, .invokestatic 37, 3), (22, .ifCond .eq 7, 3), (25, .iconst 2, 1), (26, .goto 15, 3), (29, .iload_n 2, 1), (30, .invokestatic 51, 3), (33, .ifCond .eq 7, 3), (36, .iconst 1, 1), (37, .goto 4, 3), (40, .iconst 0, 1), (41, .istore_n 3, 1), (42, .iload_n 1, 1), (43, .iload_n 3, 1), (44, .iadd, 1), (45, .aload_n 0, 1), (46, .getfield 19, 3), (49, .if_icmp .lt 5, 3), (52, .iconst 0, 1), (53, .ireturn, 1), (54, .iconst 1, 1), (55, .istore 4, 2), (57, .iload 4, 2), (59, .iload_n 3, 1), (60, .if_icmp .gt 36, 3), (63, .aload_n 0, 1), (64, .getfield 9, 3), (67, .iload_n 1, 1), (68, .iload 4, 2), (70, .iadd, 1), (71, .caload, 1), (72, .istore 5, 2), (74, .iload 5, 2), (76, .bipush 48, 2), (78, .if_icmp .lt 10, 3), (81, .iload 5, 2), (83, .bipush 57, 2), (85, .if_icmp .le 5, 3), (88, .iconst 0, 1), (89, .ireturn, 1), (90, .iinc 4 1, 3), (93, .goto (-36), 3), (96, .iconst 1, 1), (97, .iload_n 3, 1), (98, .iadd, 1), (99, .ireturn, 1)]
theorem DX7_widthAt : xdt cX7_widthAt tX7_widthAt = true := by decide +kernel
abbrev mX7_widthAt : XM := (cX7_widthAt, yX7_widthAt, 6, (some .int), 259)
theorem FX7_widthAt : xMF mX7_widthAt 1 := ⟨by decide +kernel, xTb_mem 431 (by decide +kernel) rfl, xTb_mem 56 (by decide +kernel) rfl, by decide +kernel, by decide +kernel, by decide +kernel, by decide⟩
theorem VX7_widthAt : xMV mX7_widthAt := ⟨xTb_mem 430 (by decide +kernel) rfl, xTb_mem 0 (by decide +kernel) rfl⟩
def tX7_kindOf : List (Nat × Instr × Nat) := [(0, .ldc 44, 2), (2, .aload_n 0, 1), (3, .getfield 9, 3), (6, .aload_n 0, 1), (7, .getfield 15, 3), (10, .iload_n 1, 1), (11, .iaload, 1), (12, .caload, 1), (13, .invokevirtual 46, 3), (16, .ireturn, 1)]
theorem DX7_kindOf : xdt cX7_kindOf tX7_kindOf = true := by decide +kernel
abbrev mX7_kindOf : XM := (cX7_kindOf, yX7_kindOf, 2, (some .int), 259)
theorem FX7_kindOf : xMF mX7_kindOf 1 := ⟨by decide +kernel, xTb_mem 505 (by decide +kernel) rfl, xTb_mem 56 (by decide +kernel) rfl, by decide +kernel, by decide +kernel, by decide +kernel, by decide⟩
theorem VX7_kindOf : xMV mX7_kindOf := ⟨xTb_mem 503 (by decide +kernel) rfl, xTb_mem 504 (by decide +kernel) rfl⟩
def tX7_valueOf : List (Nat × Instr × Nat) := [(0, .aload_n 0, 1), (1, .iload_n 1, 1), (2, .invokevirtual 34, 3), (5, .istore_n 2, 1), (6, .aload_n 0, 1), (7, .getfield 15, 3), (10, .iload_n 1, 1), (11, .iaload, 1), (12, .istore_n 3, 1), (13, .iload_n 2, 1), (14, .invokestatic 51, 3), (17, .ifCond .eq 15, 3), (20, .aload_n 0, 1), (21, .getfield 9, 3), (24, .iload_n 3, 1), (25, .iconst 1, 1), (26, .iadd, 1), (27, .caload, 1), (28, .bipush 48, 2), (30, .isub, 1), (31, .ireturn, 1), (32, .iload_n 2, 1), (33, .invokestatic 37, 3), (36, .ifCond .eq 30, 3), (39, .bipush 10, 2), (41, .aload_n 0, 1), (42, .getfield 9, 3), (45, .iload_n 3, 1), (46, .iconst 1, 1), (47, .iadd, 1), (48, .caload, 1), (49, .bipush 48, 2), (51, .isub, 1), (52, .imul, 1), (53, .aload_n 0, 1), (54, .getfield 9, 3), (57, .iload_n 3, 1), (58, .iconst 2, 1), (59, .iadd, 1), (60, .caload, 1), (61, .iadd, 1), (62, .bipush 48, 2), (64, .isub, 1), (65, .ireturn, 1), (66, .bipush (-4), 2), (68, .ireturn, 1)]
theorem DX7_valueOf : xdt cX7_valueOf tX7_valueOf = true := by decide +kernel
abbrev mX7_valueOf : XM := (cX7_valueOf, yX7_valueOf, 4, (some .int), 259)
theorem FX7_valueOf : xMF mX7_valueOf 1 := ⟨by decide +kernel, xTb_mem 509 (by decide +kernel) rfl, xTb_mem 56 (by decide +kernel) rfl, by decide +kernel, by decide +kernel, by decide +kernel, by decide⟩
theorem VX7_valueOf : xMV mX7_valueOf := ⟨xTb_mem 507 (by decide +kernel) rfl, xTb_mem 508 (by decide +kernel) rfl⟩
def tX8_init : List (Nat × Instr × Nat) := [(0, .aload_n 0, 1), (1, .invokespecial 3, 3), (4, .aload_n 0, 1), (5, .new 9, 3), (8, .dup, 1), (9, .invokespecial 11, 3), (12, .putfield 12, 3), (15, .aload_n 0, 1), (16, .new 16, 3), (19, .dup, 1), (20, .invokespecial 18, 3), (23, .putfield 19, 3), (26, .aload_n 0, 1), (27, .new 23, 3), (30, .dup, 1), (31, .invokespecial 25, 3), (34, .putfield 26, 3), (37, .aload_n 0, 1), (38, .new 30, 3), (41, .dup, 1), (42, .invokespecial 32, 3), (45, .putfield 33, 3), (48, .aload_n 0, 1), (49, .new 37, 3), (52, .dup, 1), (53, .aload_n 0, 1), (54, .getfield 19, 3), (57, .aload_n 0, 1), (58, .getfield 26, 3), (61, .invokespecial 39, 3), (64, .putfield 42, 3), (67, .aload_n 0, 1), (68, .new 46, 3), (71, .dup, 1), (72, .aload_n 0, 1), (73, .getfield 42, 3), (76, .aload_n 0, 1), (77, .getfield 26, 3), (80, .invokespecial 48, 3), (83, .putfield 51, 3), (86, .aload_n 0, 1), (87, .new 55, 3), (90, .dup, 1), (91, .aload_n 0, 1), (92, .getfield 19, 3), (95, .aload_n 0, 1), (96, .getfield 42, 3), (99, .invokespecial 57, 3), (102, .putfield 60, 3), (105, .iconst 0, 1), (106, .istore_n 1, 1), (107, .iload_n 1, 1), (108, .ldc 64, 2), (110, .invokevirtual 66, 3), (113, .if_icmp .ge 23, 3), (116, .aload_n 0, 1), (117, .getfield 12, 3), (120, .ldc 64, 2), (122, .iload_n 1, 1), (123, .invokevirtual 72, 3), (126, .invokevirtual 76, 3), (129, .pop, 1), (130, .iinc 1 1, 3), (133, .goto (-26), 3), (136, .aload_n 0, 1), (137, .getfield 12, 3), (140, .invokevirtual 80, 3), (143, .bipush (-4), 2), (145, .if_icmp .ne 14, 3), (148, .aload_n 0, 1), (149, .getfield 19, 3), (152, .aload_n 0, 1), (153, .getfield 12, 3), (156, .invokevirtual 83, 3), (159, .aload_n 0, 1), (160, .getfield 12, 3), (163, .invokevirtual 87, 3), (166, .pop, 1), (167, .aload_n 0, 1), (168, .getfield 42, 3), (171, .invokevirtual 90, 3), (174, .return_, 1)]
theorem DX8_init : xdt cX8_init tX8_init = true := by decide +kernel
abbrev mX8_init : XM := (cX8_init, yX8_init, 2, none, 259)
theorem FX8_init : xMF mX8_init 0 := ⟨by decide +kernel, xTb_mem 75 (by decide +kernel) rfl, xTb_mem 55 (by decide +kernel) rfl, by decide +kernel, by decide +kernel, by decide +kernel, by decide⟩
theorem VX8_init : xMI mX8_init := ⟨xTb_mem 74 (by decide +kernel) rfl, rfl⟩
def tX8_write : List (Nat × Instr × Nat) := [(0, .iload_n 1, 1), (1, .bipush 32, 2), (3, .if_icmp .lt 9, 3), (6, .iload_n 1, 1), (7, .bipush 126, 2), (9, .if_icmp .le 5, 3), (12, .iconst (-1), 1), (13, .ireturn, 1), (14, .aload_n 0, 1), (15, .getfield 12, 3), (18, .iload_n 1, 1), (19, .i2c, 1), (20, .invokevirtual 76, 3), (23, .ireturn, 1)]
theorem DX8_write : xdt cX8_write tX8_write = true := by decide +kernel
abbrev mX8_write : XM := (cX8_write, yX8_write, 2, (some .int), 259)
theorem FX8_write : xMF mX8_write 1 := ⟨by decide +kernel, xTb_mem 611 (by decide +kernel) rfl, xTb_mem 55 (by decide +kernel) rfl, by decide +kernel, by decide +kernel, by decide +kernel, by decide⟩
theorem VX8_write : xMV mX8_write := ⟨xTb_mem 609 (by decide +kernel) rfl, xTb_mem 610 (by decide +kernel) rfl⟩
def tX8_wipe : List (Nat × Instr × Nat) := [(0, .aload_n 0, 1), (1, .getfield 12, 3), (4, .invokevirtual 87, 3), (7, .ireturn, 1)]
theorem DX8_wipe : xdt cX8_wipe tX8_wipe = true := by decide +kernel
abbrev mX8_wipe : XM := (cX8_wipe, yX8_wipe, 1, (some .int), 259)
theorem FX8_wipe : xMF mX8_wipe 0 := ⟨by decide +kernel, xTb_mem 615 (by decide +kernel) rfl, xTb_mem 55 (by decide +kernel) rfl, by decide +kernel, by decide +kernel, by decide +kernel, by decide⟩
theorem VX8_wipe : xMV mX8_wipe := ⟨xTb_mem 613 (by decide +kernel) rfl, xTb_mem 614 (by decide +kernel) rfl⟩
def tX8_fault : List (Nat × Instr × Nat) := [(0, .aload_n 0, 1), (1, .getfield 12, 3), (4, .invokevirtual 80, 3), (7, .ireturn, 1)]
theorem DX8_fault : xdt cX8_fault tX8_fault = true := by decide +kernel
abbrev mX8_fault : XM := (cX8_fault, yX8_fault, 1, (some .int), 259)
theorem FX8_fault : xMF mX8_fault 0 := ⟨by decide +kernel, xTb_mem 619 (by decide +kernel) rfl, xTb_mem 55 (by decide +kernel) rfl, by decide +kernel, by decide +kernel, by decide +kernel, by decide⟩
theorem VX8_fault : xMV mX8_fault := ⟨xTb_mem 617 (by decide +kernel) rfl, xTb_mem 618 (by decide +kernel) rfl⟩
def tX8_lay : List (Nat × Instr × Nat) := [(0, .aload_n 0, 1), (1, .getfield 12, 3), (4, .invokevirtual 80, 3), (7, .bipush (-4), 2), (9, .if_icmp .ne 13, 3), (12, .aload_n 0, 1), (13, .getfield 12, 3), (16, .getfield 93, 3), (19, .ifCond .ne 6, 3), (22, .bipush (-2), 2), (24, .ireturn, 1), (25, .aload_n 0, 1), (26, .getfield 19, 3), (29, .aload_n 0, 1), (30, .getfield 12, 3), (33, .invokevirtual 83, 3), (36, .aload_n 0, 1), (37, .getfield 26, 3), (40, .iconst 0, 1), (41, .putfield 97, 3), (44, .aload_n 0, 1), (45, .getfield 33, 3), (48, .iconst 0, 1), (49, .putfield 100, 3), (52, .aload_n 0, 1), (53, .invokevirtual 103, 3), (56, .aload_n 0, 1), (57, .getfield 19, 3), (60, .getfield 106, 3), (63, .ireturn, 1)]
theorem DX8_lay : xdt cX8_lay tX8_lay = true := by decide +kernel
abbrev mX8_lay : XM := (cX8_lay, yX8_lay, 1, (some .int), 259)
theorem FX8_lay : xMF mX8_lay 0 := ⟨by decide +kernel, xTb_mem 623 (by decide +kernel) rfl, xTb_mem 55 (by decide +kernel) rfl, by decide +kernel, by decide +kernel, by decide +kernel, by decide⟩
theorem VX8_lay : xMV mX8_lay := ⟨xTb_mem 621 (by decide +kernel) rfl, xTb_mem 622 (by decide +kernel) rfl⟩
def tX8_code : List (Nat × Instr × Nat) := [(0, .aload_n 0, 1), (1, .getfield 19, 3), (4, .iload_n 1, 1), (5, .invokevirtual 108, 3), (8, .ifCond .ne 5, 3), (11, .iconst (-1), 1), (12, .ireturn, 1), (13, .iload_n 2, 1), (14, .tableswitch 95 0 4 #[34, 47, 57, 75, 85], 34), (48, .aload_n 0, 1), (49, .getfield 19, 3), (52, .getfield 112, 3), (55, .iload_n 1, 1), (56, .iaload, 1), (57, .invokestatic 116, 3), (60, .ireturn, 1), (61, .aload_n 0, 1), (62, .getfield 19, 3), (65, .getfield 120, 3), (68, .iload_n 1, 1), (69, .iaload, 1), (70, .ireturn, 1), (71, .aload_n 0, 1), (72, .getfield 19, 3), (75, .getfield 123, 3), (78, .iload_n 1, 1), (79, .baload, 1), (80, .ifCond .eq 7, 3), (83, .iconst 1, 1), (84, .goto 4, 3), (87, .iconst 0, 1), (88, .ireturn, 1), (89, .aload_n 0, 1), (90, .getfield 42, 3), (93, .getfield 127, 3), (96, .iload_n 1, 1), (97, .iaload, 1), (98, .ireturn, 1), (99, .aload_n 0, 1), (100, .getfield 42, 3), (103, .getfield 130, 3), (106, .iload_n 1, 1), (107, .iaload, 1), (108, .ireturn, 1), (109, .iconst (-1), 1), (110, .ireturn, 1)]
theorem DX8_code : xdt cX8_code tX8_code = true := by decide +kernel
abbrev mX8_code : XM := (cX8_code, yX8_code, 3, (some .int), 259)
theorem FX8_code : xMF mX8_code 2 := ⟨by decide +kernel, xTb_mem 635 (by decide +kernel) rfl, xTb_mem 55 (by decide +kernel) rfl, by decide +kernel, by decide +kernel, by decide +kernel, by decide⟩
theorem VX8_code : xMV mX8_code := ⟨xTb_mem 633 (by decide +kernel) rfl, xTb_mem 634 (by decide +kernel) rfl⟩
def tX8_add : List (Nat × Instr × Nat) := [(0, .aload_n 0, 1), (1, .iload_n 1, 1), (2, .iload_n 2, 1), (3, .iload_n 3, 1), (4, .invokevirtual 133, 3), (7, .istore 4, 2), (9, .iload 4, 2), (11, .ifCond .eq 6, 3), (14, .iload 4, 2), (16, .ireturn, 1), (17, .aload_n 0, 1), (18, .getfield 33, 3), (21, .aload_n 0, 1), (22, .getfield 26, 3), (25, .invokevirtual 137, 3), (28, .aload_n 0, 1), (29, .getfield 26, 3), (32, .getfield 97, 3), (35, .istore 5, 2), (37, .aload_n 0, 1), (38, .getfield 26, 3), (41, .aload_n 0, 1), (42, .getfield 19, 3), (45, .iload_n 1, 1), (46, .iload_n 2, 1), (47, .iload_n 3, 1), (48, .invokevirtual 141, 3), (51, .aload_n 0, 1), (52, .invokevirtual 103, 3), (55, .iload 5, 2), (57, .ireturn, 1)]
theorem DX8_add : xdt cX8_add tX8_add = true := by decide +kernel
abbrev mX8_add : XM := (cX8_add, yX8_add, 6, (some .int), 259)
theorem FX8_add : xMF mX8_add 3 := ⟨by decide +kernel, xTb_mem 644 (by decide +kernel) rfl, xTb_mem 55 (by decide +kernel) rfl, by decide +kernel, by decide +kernel, by decide +kernel, by decide⟩
theorem VX8_add : xMV mX8_add := ⟨xTb_mem 642 (by decide +kernel) rfl, xTb_mem 643 (by decide +kernel) rfl⟩
def tX8_drop : List (Nat × Instr × Nat) := [(0, .aload_n 0, 1), (1, .getfield 26, 3), (4, .iload_n 1, 1), (5, .invokevirtual 144, 3), (8, .ifCond .ne 5, 3), (11, .iconst (-1), 1), (12, .ireturn, 1), (13, .aload_n 0, 1), (14, .getfield 33, 3), (17, .aload_n 0, 1), (18, .getfield 26, 3), (21, .invokevirtual 137, 3), (24, .aload_n 0, 1), (25, .getfield 26, 3), (28, .iload_n 1, 1), (29, .invokevirtual 145, 3), (32, .aload_n 0, 1), (33, .invokevirtual 103, 3), (36, .aload_n 0, 1), (37, .getfield 26, 3), (40, .getfield 97, 3), (43, .ireturn, 1)]
theorem DX8_drop : xdt cX8_drop tX8_drop = true := by decide +kernel
abbrev mX8_drop : XM := (cX8_drop, yX8_drop, 2, (some .int), 259)
theorem FX8_drop : xMF mX8_drop 1 := ⟨by decide +kernel, xTb_mem 681 (by decide +kernel) rfl, xTb_mem 55 (by decide +kernel) rfl, by decide +kernel, by decide +kernel, by decide +kernel, by decide⟩
theorem VX8_drop : xMV mX8_drop := ⟨xTb_mem 679 (by decide +kernel) rfl, xTb_mem 680 (by decide +kernel) rfl⟩
def tX8_gain : List (Nat × Instr × Nat) := [(0, .aload_n 0, 1), (1, .iload_n 1, 1), (2, .iload_n 2, 1), (3, .iload_n 3, 1), (4, .invokevirtual 133, 3), (7, .istore 4, 2), (9, .iload 4, 2), (11, .ifCond .eq 6, 3), (14, .iload 4, 2), (16, .ireturn, 1), (17, .aload_n 0, 1), (18, .getfield 42, 3), (21, .iload_n 1, 1), (22, .iload_n 2, 1), (23, .iload_n 3, 1), (24, .invokevirtual 149, 3), (27, .ldc 152, 2), (29, .iadd, 1), (30, .ireturn, 1)]
theorem DX8_gain : xdt cX8_gain tX8_gain = true := by decide +kernel
abbrev mX8_gain : XM := (cX8_gain, yX8_gain, 5, (some .int), 259)
theorem FX8_gain : xMF mX8_gain 3 := ⟨by decide +kernel, xTb_mem 693 (by decide +kernel) rfl, xTb_mem 55 (by decide +kernel) rfl, by decide +kernel, by decide +kernel, by decide +kernel, by decide⟩
theorem VX8_gain : xMV mX8_gain := ⟨xTb_mem 691 (by decide +kernel) rfl, xTb_mem 692 (by decide +kernel) rfl⟩
def tX8_choose : List (Nat × Instr × Nat) := [(0, .iload_n 1, 1), (1, .iconst 1, 1), (2, .if_icmp .lt 9, 3), (5, .iload_n 1, 1), (6, .bipush 8, 2), (8, .if_icmp .le 5, 3), (11, .iconst (-1), 1), (12, .ireturn, 1), (13, .aload_n 0, 1), (14, .getfield 51, 3), (17, .invokevirtual 153, 3), (20, .istore_n 2, 1), (21, .iload_n 2, 1), (22, .ifCond .ne 6, 3), (25, .bipush (-2), 2), (27, .ireturn, 1), (28, .aload_n 0, 1), (29, .getfield 33, 3), (32, .aload_n 0, 1), (33, .getfield 26, 3), (36, .invokevirtual 137, 3), (39, .aload_n 0, 1), (40, .getfield 26, 3), (43, .getfield 97, 3), (46, .istore_n 3, 1), (47, .iconst 0, 1), (48, .istore 4, 2), (50, .iload 4, 2), (52, .iload_n 1, 1), (53, .if_icmp .ge 60, 3), (56, .iload_n 2, 1), (57, .ifCond .eq 56, 3), (60, .aload_n 0, 1), (61, .getfield 26, 3), (64, .aload_n 0, 1), (65, .getfield 19, 3), (68, .aload_n 0, 1), (69, .getfield 51, 3), (72, .getfield 157, 3), (75, .aload_n 0, 1), (76, .getfield 51, 3), (79, .getfield 160, 3), (82, .aload_n 0, 1), (83, .getfield 51, 3), (86, .getfield 163, 3), (89, .invokevirtual 141, 3), (92, .aload_n 0, 1), (93, .getfield 42, 3), (96, .invokevirtual 90, 3), (99, .aload_n 0, 1), (100, .getfield 51, 3), (103, .invokevirtual 153, 3), (106, .istore_n 2, 1), (107, .iinc 4 1, 3), (110, .goto (-60), 3), (113, .aload_n 0, 1), (114, .getfield 60, 3), (117, .invokevirtual 166, 3), (120, .aload_n 0, 1), (121, .getfield 26, 3), (124, .getfield 97, 3), (127, .iload_n 3, 1), (128, .isub, 1), (129, .ireturn, 1)]
theorem DX8_choose : xdt cX8_choose tX8_choose = true := by decide +kernel
abbrev mX8_choose : XM := (cX8_choose, yX8_choose, 5, (some .int), 259)
theorem FX8_choose : xMF mX8_choose 1 := ⟨by decide +kernel, xTb_mem 710 (by decide +kernel) rfl, xTb_mem 55 (by decide +kernel) rfl, by decide +kernel, by decide +kernel, by decide +kernel, by decide⟩
theorem VX8_choose : xMV mX8_choose := ⟨xTb_mem 708 (by decide +kernel) rfl, xTb_mem 709 (by decide +kernel) rfl⟩
def tX8_entry : List (Nat × Instr × Nat) := [(0, .aload_n 0, 1), (1, .getfield 26, 3), (4, .iload_n 1, 1), (5, .invokevirtual 144, 3), (8, .ifCond .ne 5, 3), (11, .iconst (-1), 1), (12, .ireturn, 1), (13, .aload_n 0, 1), (14, .getfield 26, 3), (17, .getfield 169, 3), (20, .iload_n 1, 1), (21, .aaload, 1), (22, .astore_n 3, 1), (23, .iload_n 2, 1), (24, .tableswitch 60 0 3 #[32, 37, 42, 51], 32), (56, .aload_n 3, 1), (57, .getfield 173, 3), (60, .ireturn, 1), (61, .aload_n 3, 1), (62, .getfield 176, 3), (65, .ireturn, 1), (66, .aload_n 0, 1), (67, .getfield 42, 3), (70, .iload_n 1, 1), (71, .invokevirtual 177, 3), (74, .ireturn, 1), (75, .aload_n 0, 1), (76, .getfield 42, 3), (79, .aload_n 3, 1), (80, .invokevirtual 180, 3), (83, .ireturn, 1), (84, .iconst (-1), 1), (85, .ireturn, 1)]
theorem DX8_entry : xdt cX8_entry tX8_entry = true := by decide +kernel
abbrev mX8_entry : XM := (cX8_entry, yX8_entry, 4, (some .int), 259)
theorem FX8_entry : xMF mX8_entry 2 := ⟨by decide +kernel, xTb_mem 732 (by decide +kernel) rfl, xTb_mem 55 (by decide +kernel) rfl, by decide +kernel, by decide +kernel, by decide +kernel, by decide⟩
theorem VX8_entry : xMV mX8_entry := ⟨xTb_mem 730 (by decide +kernel) rfl, xTb_mem 731 (by decide +kernel) rfl⟩
def tX8_part : List (Nat × Instr × Nat) := [(0, .aload_n 0, 1), (1, .getfield 26, 3), (4, .iload_n 1, 1), (5, .invokevirtual 144, 3), (8, .ifCond .eq 16, 3), (11, .iload_n 2, 1), (12, .ifCond .lt 12, 3), (15, .iload_n 3, 1), (16, .ifCond .lt 8, 3), (19, .iload_n 3, 1), (20, .iconst 1, 1), (21, .if_icmp .le 5, 3), (24, .iconst (-1), 1), (25, .ireturn, 1), (26, .aload_n 0, 1), (27, .getfield 26, 3), (30, .getfield 169, 3), (33, .iload_n 1, 1), (34, .aaload, 1), (35, .astore 4, 2), (37, .iload_n 2, 1), (38, .aload 4, 2), (40, .getfield 173, 3), (43, .if_icmp .lt 6, 3), (46, .bipush (-4), 2), (48, .ireturn, 1), (49, .iload_n 3, 1), (50, .ifCond .ne 14, 3), (53, .aload 4, 2), (55, .getfield 184, 3), (58, .iload_n 2, 1), (59, .iaload, 1), (60, .invokestatic 116, 3), (63, .ireturn, 1), (64, .iload_n 2, 1), (65, .aload 4, 2), (67, .getfield 176, 3), (70, .if_icmp .ne 8, 3), (73, .bipush (-4), 2), (75, .goto 10, 3), (78, .aload 4, 2), (80, .getfield 185, 3), (83, .iload_n 2, 1), (84, .iaload, 1), (85, .ireturn, 1)]
theorem DX8_part : xdt cX8_part tX8_part = true := by decide +kernel
abbrev mX8_part : XM := (cX8_part, yX8_part, 5, (some .int), 259)
theorem FX8_part : xMF mX8_part 3 := ⟨by decide +kernel, xTb_mem 741 (by decide +kernel) rfl, xTb_mem 55 (by decide +kernel) rfl, by decide +kernel, by decide +kernel, by decide +kernel, by decide⟩
theorem VX8_part : xMV mX8_part := ⟨xTb_mem 739 (by decide +kernel) rfl, xTb_mem 740 (by decide +kernel) rfl⟩
def tX8_wide : List (Nat × Instr × Nat) := [(0, .iload_n 1, 1), (1, .iconst 4, 1), (2, .if_icmp .eq 17, 3), (5, .iload_n 1, 1), (6, .bipush 8, 2), (8, .if_icmp .eq 11, 3), (11, .iload_n 1, 1), (12, .bipush 16, 2), (14, .if_icmp .eq 5, 3), (17, .iconst (-1), 1), (18, .ireturn, 1), (19, .aload_n 0, 1), (20, .getfield 26, 3), (23, .getfield 186, 3), (26, .istore_n 2, 1), (27, .iload_n 1, 1), (28, .iload_n 2, 1), (29, .if_icmp .ne 6, 3), (32, .bipush (-2), 2), (34, .ireturn, 1), (35, .aload_n 0, 1), (36, .getfield 33, 3), (39, .aload_n 0, 1), (40, .getfield 26, 3), (43, .invokevirtual 137, 3), (46, .aload_n 0, 1), (47, .getfield 26, 3), (50, .iload_n 1, 1), (51, .putfield 186, 3), (54, .aload_n 0, 1), (55, .invokevirtual 103, 3), (58, .iload_n 2, 1), (59, .ireturn, 1)]
theorem DX8_wide : xdt cX8_wide tX8_wide = true := by decide +kernel
abbrev mX8_wide : XM := (cX8_wide, yX8_wide, 3, (some .int), 259)
theorem FX8_wide : xMF mX8_wide 1 := ⟨by decide +kernel, xTb_mem 745 (by decide +kernel) rfl, xTb_mem 55 (by decide +kernel) rfl, by decide +kernel, by decide +kernel, by decide +kernel, by decide⟩
theorem VX8_wide : xMV mX8_wide := ⟨xTb_mem 743 (by decide +kernel) rfl, xTb_mem 744 (by decide +kernel) rfl⟩
def tX8_hold : List (Nat × Instr × Nat) := [(0, .iload_n 1, 1), (1, .iconst 1, 1), (2, .if_icmp .lt 8, 3), (5, .iload_n 1, 1), (6, .iconst 4, 1), (7, .if_icmp .le 5, 3), (10, .iconst (-1), 1), (11, .ireturn, 1), (12, .aload_n 0, 1), (13, .getfield 26, 3), (16, .getfield 189, 3), (19, .istore_n 2, 1), (20, .iload_n 1, 1), (21, .iload_n 2, 1), (22, .if_icmp .ne 6, 3), (25, .bipush (-2), 2), (27, .ireturn, 1), (28, .aload_n 0, 1), (29, .getfield 33, 3), (32, .aload_n 0, 1), (33, .getfield 26, 3), (36, .invokevirtual 137, 3), (39, .aload_n 0, 1), (40, .getfield 26, 3), (43, .iload_n 1, 1), (44, .putfield 189, 3), (47, .aload_n 0, 1), (48, .invokevirtual 103, 3), (51, .iload_n 2, 1), (52, .ireturn, 1)]
theorem DX8_hold : xdt cX8_hold tX8_hold = true := by decide +kernel
abbrev mX8_hold : XM := (cX8_hold, yX8_hold, 3, (some .int), 259)
theorem FX8_hold : xMF mX8_hold 1 := ⟨by decide +kernel, xTb_mem 749 (by decide +kernel) rfl, xTb_mem 55 (by decide +kernel) rfl, by decide +kernel, by decide +kernel, by decide +kernel, by decide⟩
theorem VX8_hold : xMV mX8_hold := ⟨xTb_mem 747 (by decide +kernel) rfl, xTb_mem 748 (by decide +kernel) rfl⟩
def tX8_undo : List (Nat × Instr × Nat) := [(0, .aload_n 0, 1), (1, .getfield 33, 3), (4, .getfield 100, 3), (7, .ifCond .ne 6, 3), (10, .bipush (-2), 2), (12, .ireturn, 1), (13, .aload_n 0, 1), (14, .getfield 33, 3), (17, .aload_n 0, 1), (18, .getfield 26, 3), (21, .invokevirtual 192, 3), (24, .aload_n 0, 1), (25, .invokevirtual 103, 3), (28, .aload_n 0, 1), (29, .getfield 33, 3), (32, .getfield 100, 3), (35, .ireturn, 1)]
theorem DX8_undo : xdt cX8_undo tX8_undo = true := by decide +kernel
abbrev mX8_undo : XM := (cX8_undo, yX8_undo, 1, (some .int), 259)
theorem FX8_undo : xMF mX8_undo 0 := ⟨by decide +kernel, xTb_mem 753 (by decide +kernel) rfl, xTb_mem 55 (by decide +kernel) rfl, by decide +kernel, by decide +kernel, by decide +kernel, by decide⟩
theorem VX8_undo : xMV mX8_undo := ⟨xTb_mem 751 (by decide +kernel) rfl, xTb_mem 752 (by decide +kernel) rfl⟩
def tX8_size : List (Nat × Instr × Nat) := [(0, .iload_n 1, 1), (1, .tableswitch 115 0 5 #[39, 47, 55, 65, 91, 99], 39), (40, .aload_n 0, 1), (41, .getfield 42, 3), (44, .getfield 195, 3), (47, .ireturn, 1), (48, .aload_n 0, 1), (49, .getfield 26, 3), (52, .invokevirtual 196, 3), (55, .ireturn, 1), (56, .iconst 3, 1), (57, .aload_n 0, 1), (58, .getfield 42, 3), (61, .getfield 199, 3), (64, .imul, 1), (65, .ireturn, 1), (66, .aload_n 0, 1), (67, .getfield 42, 3), (70, .getfield 195, 3), (73, .aload_n 0, 1), (74, .getfield 26, 3), (77, .invokevirtual 196, 3), (80, .iadd, 1), (81, .iconst 3, 1), (82, .aload_n 0, 1), (83, .getfield 42, 3), (86, .getfield 199, 3), (89, .imul, 1), (90, .iadd, 1), (91, .ireturn, 1), (92, .aload_n 0, 1), (93, .getfield 19, 3), (96, .invokevirtual 202, 3), (99, .ireturn, 1), (100, .aload_n 0, 1), (101, .getfield 42, 3), (104, .iconst 0, 1), (105, .aload_n 0, 1), (106, .getfield 19, 3), (109, .getfield 106, 3), (112, .invokevirtual 205, 3), (115, .ireturn, 1), (116, .iconst (-1), 1), (117, .ireturn, 1)]
theorem DX8_size : xdt cX8_size tX8_size = true := by decide +kernel
abbrev mX8_size : XM := (cX8_size, yX8_size, 2, (some .int), 259)
theorem FX8_size : xMF mX8_size 1 := ⟨by decide +kernel, xTb_mem 761 (by decide +kernel) rfl, xTb_mem 55 (by decide +kernel) rfl, by decide +kernel, by decide +kernel, by decide +kernel, by decide⟩
theorem VX8_size : xMV mX8_size := ⟨xTb_mem 759 (by decide +kernel) rfl, xTb_mem 760 (by decide +kernel) rfl⟩
def tX8_nibble : List (Nat × Instr × Nat) := [(0, .iload_n 1, 1), (1, .ifCond .ge 5, 3), (4, .iconst (-1), 1), (5, .ireturn, 1), (6, .iload_n 1, 1), (7, .aload_n 0, 1), (8, .getfield 42, 3), (11, .getfield 195, 3), (14, .if_icmp .ge 15, 3), (17, .aload_n 0, 1), (18, .getfield 42, 3), (21, .getfield 209, 3), (24, .iload_n 1, 1), (25, .iaload, 1), (26, .goto 5, 3), (29, .bipush (-4), 2), (31, .ireturn, 1)]
theorem DX8_nibble : xdt cX8_nibble tX8_nibble = true := by decide +kernel
abbrev mX8_nibble : XM := (cX8_nibble, yX8_nibble, 2, (some .int), 259)
theorem FX8_nibble : xMF mX8_nibble 1 := ⟨by decide +kernel, xTb_mem 779 (by decide +kernel) rfl, xTb_mem 55 (by decide +kernel) rfl, by decide +kernel, by decide +kernel, by decide +kernel, by decide⟩
theorem VX8_nibble : xMV mX8_nibble := ⟨xTb_mem 777 (by decide +kernel) rfl, xTb_mem 778 (by decide +kernel) rfl⟩
def tX8_address : List (Nat × Instr × Nat) := [(0, .aload_n 0, 1), (1, .getfield 19, 3), (4, .iload_n 1, 1), (5, .invokevirtual 108, 3), (8, .ifCond .eq 15, 3), (11, .aload_n 0, 1), (12, .getfield 42, 3), (15, .getfield 212, 3), (18, .iload_n 1, 1), (19, .iaload, 1), (20, .goto 4, 3), (23, .iconst (-1), 1), (24, .ireturn, 1)]
theorem DX8_address : xdt cX8_address tX8_address = true := by decide +kernel
abbrev mX8_address : XM := (cX8_address, yX8_address, 2, (some .int), 259)
theorem FX8_address : xMF mX8_address 1 := ⟨by decide +kernel, xTb_mem 783 (by decide +kernel) rfl, xTb_mem 55 (by decide +kernel) rfl, by decide +kernel, by decide +kernel, by decide +kernel, by decide⟩
theorem VX8_address : xMV mX8_address := ⟨xTb_mem 781 (by decide +kernel) rfl, xTb_mem 782 (by decide +kernel) rfl⟩
def tX8_at : List (Nat × Instr × Nat) := [(0, .iload_n 1, 1), (1, .ifCond .ge 5, 3), (4, .iconst (-1), 1), (5, .ireturn, 1), (6, .aload_n 0, 1), (7, .getfield 42, 3), (10, .iload_n 1, 1), (11, .invokevirtual 215, 3), (14, .ireturn, 1)]
theorem DX8_at : xdt cX8_at tX8_at = true := by decide +kernel
abbrev mX8_at : XM := (cX8_at, yX8_at, 2, (some .int), 259)
theorem FX8_at : xMF mX8_at 1 := ⟨by decide +kernel, xTb_mem 787 (by decide +kernel) rfl, xTb_mem 55 (by decide +kernel) rfl, by decide +kernel, by decide +kernel, by decide +kernel, by decide⟩
theorem VX8_at : xMV mX8_at := ⟨xTb_mem 785 (by decide +kernel) rfl, xTb_mem 786 (by decide +kernel) rfl⟩
def tX8_line : List (Nat × Instr × Nat) := [(0, .iload_n 1, 1), (1, .ifCond .lt 14, 3), (4, .iload_n 1, 1), (5, .aload_n 0, 1), (6, .getfield 42, 3), (9, .getfield 199, 3), (12, .if_icmp .lt 5, 3), (15, .iconst (-1), 1), (16, .ireturn, 1), (17, .iload_n 2, 1), (18, .tableswitch 70 0 2 #[26, 35, 44], 26), (44, .aload_n 0, 1), (45, .getfield 42, 3), (48, .iload_n 1, 1), (49, .invokevirtual 218, 3), (52, .ireturn, 1), (53, .aload_n 0, 1), (54, .getfield 42, 3), (57, .iload_n 1, 1), (58, .invokevirtual 221, 3), (61, .ireturn, 1), (62, .aload_n 0, 1), (63, .getfield 42, 3), (66, .aload_n 0, 1), (67, .getfield 42, 3), (70, .iload_n 1, 1), (71, .invokevirtual 224, 3), (74, .aload_n 0, 1), (75, .getfield 42, 3), (78, .iload_n 1, 1), (79, .iconst 1, 1), (80, .iadd, 1), (81, .invokevirtual 224, 3), (84, .invokevirtual 205, 3), (87, .ireturn, 1), (88, .iconst (-1), 1), (89, .ireturn, 1)]
theorem DX8_line : xdt cX8_line tX8_line = true := by decide +kernel
abbrev mX8_line : XM := (cX8_line, yX8_line, 3, (some .int), 259)
theorem FX8_line : xMF mX8_line 2 := ⟨by decide +kernel, xTb_mem 795 (by decide +kernel) rfl, xTb_mem 55 (by decide +kernel) rfl, by decide +kernel, by decide +kernel, by decide +kernel, by decide⟩
theorem VX8_line : xMV mX8_line := ⟨xTb_mem 793 (by decide +kernel) rfl, xTb_mem 794 (by decide +kernel) rfl⟩
def tX8_seek : List (Nat × Instr × Nat) := [(0, .aload_n 0, 1), (1, .getfield 19, 3), (4, .iload_n 1, 1), (5, .invokevirtual 108, 3), (8, .ifCond .ne 5, 3), (11, .iconst (-1), 1), (12, .ireturn, 1), (13, .aload_n 0, 1), (14, .getfield 42, 3), (17, .getfield 227, 3), (20, .iload_n 1, 1), (21, .iaload, 1), (22, .aload_n 0, 1), (23, .getfield 42, 3), (26, .aload_n 0, 1), (27, .getfield 42, 3), (30, .iload_n 1, 1), (31, .invokevirtual 230, 3), (34, .invokevirtual 218, 3), (37, .isub, 1), (38, .ireturn, 1)]
theorem DX8_seek : xdt cX8_seek tX8_seek = true := by decide +kernel
abbrev mX8_seek : XM := (cX8_seek, yX8_seek, 2, (some .int), 259)
theorem FX8_seek : xMF mX8_seek 1 := ⟨by decide +kernel, xTb_mem 813 (by decide +kernel) rfl, xTb_mem 55 (by decide +kernel) rfl, by decide +kernel, by decide +kernel, by decide +kernel, by decide⟩
theorem VX8_seek : xMV mX8_seek := ⟨xTb_mem 811 (by decide +kernel) rfl, xTb_mem 812 (by decide +kernel) rfl⟩
def tX8_start : List (Nat × Instr × Nat) := [(0, .iload_n 1, 1), (1, .ifCond .lt 8, 3), (4, .iload_n 1, 1), (5, .iconst 1, 1), (6, .if_icmp .le 5, 3), (9, .iconst (-1), 1), (10, .ireturn, 1), (11, .aload_n 0, 1), (12, .getfield 60, 3), (15, .iload_n 1, 1), (16, .iconst 1, 1), (17, .if_icmp .ne 7, 3), (20, .iconst 1, 1), (21, .goto 4, 3), (24, .iconst 0, 1), (25, .aload_n 0, 1), (26, .getfield 26, 3), (29, .getfield 189, 3), (32, .invokevirtual 233, 3), (35, .iconst 0, 1), (36, .ireturn, 1)]
theorem DX8_start : xdt cX8_start tX8_start = true := by decide +kernel
abbrev mX8_start : XM := (cX8_start, yX8_start, 2, (some .int), 259)
theorem FX8_start : xMF mX8_start 1 := ⟨by decide +kernel, xTb_mem 818 (by decide +kernel) rfl, xTb_mem 55 (by decide +kernel) rfl, by decide +kernel, by decide +kernel, by decide +kernel, by decide⟩
theorem VX8_start : xMV mX8_start := ⟨xTb_mem 816 (by decide +kernel) rfl, xTb_mem 817 (by decide +kernel) rfl⟩
def tX8_step : List (Nat × Instr × Nat) := [(0, .iload_n 1, 1), (1, .iconst 1, 1), (2, .if_icmp .lt 10, 3), (5, .iload_n 1, 1), (6, .sipush 400, 3), (9, .if_icmp .le 5, 3), (12, .iconst (-1), 1), (13, .ireturn, 1), (14, .aload_n 0, 1), (15, .getfield 60, 3), (18, .getfield 237, 3), (21, .ifCond .eq 13, 3), (24, .aload_n 0, 1), (25, .getfield 60, 3), (28, .getfield 241, 3), (31, .ifCond .eq 6, 3), (34, .bipush (-2), 2), (36, .ireturn, 1), (37, .aload_n 0, 1), (38, .getfield 60, 3), (41, .iload_n 1, 1), (42, .invokevirtual 244, 3), (45, .ireturn, 1)]
theorem DX8_step : xdt cX8_step tX8_step = true := by decide +kernel
abbrev mX8_step : XM := (cX8_step, yX8_step, 2, (some .int), 259)
theorem FX8_step : xMF mX8_step 1 := ⟨by decide +kernel, xTb_mem 827 (by decide +kernel) rfl, xTb_mem 55 (by decide +kernel) rfl, by decide +kernel, by decide +kernel, by decide +kernel, by decide⟩
theorem VX8_step : xMV mX8_step := ⟨xTb_mem 825 (by decide +kernel) rfl, xTb_mem 826 (by decide +kernel) rfl⟩
def tX8_now : List (Nat × Instr × Nat) := [(0, .iload_n 1, 1), (1, .ifCond .lt 9, 3), (4, .iload_n 1, 1), (5, .bipush 8, 2), (7, .if_icmp .le 5, 3), (10, .iconst (-1), 1), (11, .ireturn, 1), (12, .aload_n 0, 1), (13, .getfield 60, 3), (16, .getfield 237, 3), (19, .ifCond .eq 14, 3), (22, .aload_n 0, 1), (23, .getfield 60, 3), (26, .iload_n 1, 1), (27, .invokevirtual 247, 3), (30, .goto 5, 3), (33, .bipush (-2), 2), (35, .ireturn, 1)]
theorem DX8_now : xdt cX8_now tX8_now = true := by decide +kernel
abbrev mX8_now : XM := (cX8_now, yX8_now, 2, (some .int), 259)
theorem FX8_now : xMF mX8_now 1 := ⟨by decide +kernel, xTb_mem 872 (by decide +kernel) rfl, xTb_mem 55 (by decide +kernel) rfl, by decide +kernel, by decide +kernel, by decide +kernel, by decide⟩
theorem VX8_now : xMV mX8_now := ⟨xTb_mem 870 (by decide +kernel) rfl, xTb_mem 871 (by decide +kernel) rfl⟩
def tX8_held : List (Nat × Instr × Nat) := [(0, .iload_n 1, 1), (1, .ifCond .ge 5, 3), (4, .iconst (-1), 1), (5, .ireturn, 1), (6, .aload_n 0, 1), (7, .getfield 60, 3), (10, .getfield 237, 3), (13, .ifCond .ne 6, 3), (16, .bipush (-2), 2), (18, .ireturn, 1), (19, .iload_n 1, 1), (20, .aload_n 0, 1), (21, .getfield 60, 3), (24, .getfield 250, 3), (27, .if_icmp .ge 15, 3), (30, .aload_n 0, 1), (31, .getfield 60, 3), (34, .getfield 253, 3), (37, .iload_n 1, 1), (38, .iaload, 1), (39, .goto 5, 3), (42, .bipush (-4), 2), (44, .ireturn, 1)]
theorem DX8_held : xdt cX8_held tX8_held = true := by decide +kernel
abbrev mX8_held : XM := (cX8_held, yX8_held, 2, (some .int), 259)
theorem FX8_held : xMF mX8_held 1 := ⟨by decide +kernel, xTb_mem 880 (by decide +kernel) rfl, xTb_mem 55 (by decide +kernel) rfl, by decide +kernel, by decide +kernel, by decide +kernel, by decide⟩
theorem VX8_held : xMV mX8_held := ⟨xTb_mem 878 (by decide +kernel) rfl, xTb_mem 879 (by decide +kernel) rfl⟩
def tX8_cell : List (Nat × Instr × Nat) := [(0, .iload_n 1, 1), (1, .ifCond .lt 9, 3), (4, .iload_n 1, 1), (5, .bipush 10, 2), (7, .if_icmp .lt 5, 3), (10, .iconst (-1), 1), (11, .ireturn, 1), (12, .aload_n 0, 1), (13, .getfield 60, 3), (16, .getfield 237, 3), (19, .ifCond .eq 15, 3), (22, .aload_n 0, 1), (23, .getfield 60, 3), (26, .getfield 256, 3), (29, .iload_n 1, 1), (30, .iaload, 1), (31, .goto 5, 3), (34, .bipush (-2), 2), (36, .ireturn, 1)]
theorem DX8_cell : xdt cX8_cell tX8_cell = true := by decide +kernel
abbrev mX8_cell : XM := (cX8_cell, yX8_cell, 2, (some .int), 259)
theorem FX8_cell : xMF mX8_cell 1 := ⟨by decide +kernel, xTb_mem 884 (by decide +kernel) rfl, xTb_mem 55 (by decide +kernel) rfl, by decide +kernel, by decide +kernel, by decide +kernel, by decide⟩
theorem VX8_cell : xMV mX8_cell := ⟨xTb_mem 882 (by decide +kernel) rfl, xTb_mem 883 (by decide +kernel) rfl⟩
def tX8_out : List (Nat × Instr × Nat) := [(0, .iload_n 1, 1), (1, .ifCond .ge 5, 3), (4, .iconst (-1), 1), (5, .ireturn, 1), (6, .aload_n 0, 1), (7, .getfield 60, 3), (10, .getfield 237, 3), (13, .ifCond .ne 6, 3), (16, .bipush (-2), 2), (18, .ireturn, 1), (19, .iload_n 1, 1), (20, .aload_n 0, 1), (21, .getfield 60, 3), (24, .getfield 259, 3), (27, .if_icmp .ge 15, 3), (30, .aload_n 0, 1), (31, .getfield 60, 3), (34, .getfield 262, 3), (37, .iload_n 1, 1), (38, .iaload, 1), (39, .goto 5, 3), (42, .bipush (-4), 2), (44, .ireturn, 1)]
theorem DX8_out : xdt cX8_out tX8_out = true := by decide +kernel
abbrev mX8_out : XM := (cX8_out, yX8_out, 2, (some .int), 259)
theorem FX8_out : xMF mX8_out 1 := ⟨by decide +kernel, xTb_mem 888 (by decide +kernel) rfl, xTb_mem 55 (by decide +kernel) rfl, by decide +kernel, by decide +kernel, by decide +kernel, by decide⟩
theorem VX8_out : xMV mX8_out := ⟨xTb_mem 886 (by decide +kernel) rfl, xTb_mem 887 (by decide +kernel) rfl⟩
def tX8_count : List (Nat × Instr × Nat) := [(0, .iload_n 1, 1), (1, .tableswitch 131 0 8 #[51, 59, 67, 75, 83, 91, 99, 107, 115], 51), (52, .aload_n 0, 1), (53, .getfield 19, 3), (56, .getfield 106, 3), (59, .ireturn, 1), (60, .aload_n 0, 1), (61, .getfield 26, 3), (64, .getfield 97, 3), (67, .ireturn, 1), (68, .aload_n 0, 1), (69, .getfield 26, 3), (72, .getfield 186, 3), (75, .ireturn, 1), (76, .aload_n 0, 1), (77, .getfield 26, 3), (80, .getfield 189, 3), (83, .ireturn, 1), (84, .aload_n 0, 1), (85, .getfield 42, 3), (88, .getfield 199, 3), (91, .ireturn, 1), (92, .aload_n 0, 1), (93, .getfield 19, 3), (96, .invokevirtual 265, 3), (99, .ireturn, 1), (100, .aload_n 0, 1), (101, .getfield 33, 3), (104, .getfield 100, 3), (107, .ireturn, 1), (108, .aload_n 0, 1), (109, .getfield 12, 3), (112, .getfield 268, 3), (115, .ireturn, 1), (116, .aload_n 0, 1), (117, .getfield 60, 3), (120, .getfield 237, 3), (123, .ifCond .eq 7, 3), (126, .iconst 1, 1), (127, .goto 4, 3), (130, .iconst 0, 1), (131, .ireturn, 1), (132, .iconst (-1), 1), (133, .ireturn, 1)]
theorem DX8_count : xdt cX8_count tX8_count = true := by decide +kernel
abbrev mX8_count : XM := (cX8_count, yX8_count, 2, (some .int), 259)
theorem FX8_count : xMF mX8_count 1 := ⟨by decide +kernel, xTb_mem 892 (by decide +kernel) rfl, xTb_mem 55 (by decide +kernel) rfl, by decide +kernel, by decide +kernel, by decide +kernel, by decide⟩
theorem VX8_count : xMV mX8_count := ⟨xTb_mem 890 (by decide +kernel) rfl, xTb_mem 891 (by decide +kernel) rfl⟩
def tX8_settle : List (Nat × Instr × Nat) := [(0, .aload_n 0, 1), (1, .getfield 42, 3), (4, .invokevirtual 90, 3), (7, .aload_n 0, 1), (8, .getfield 60, 3), (11, .invokevirtual 166, 3), (14, .return_, 1)]
theorem DX8_settle : xdt cX8_settle tX8_settle = true := by decide +kernel
abbrev mX8_settle : XM := (cX8_settle, yX8_settle, 1, none, 259)
theorem FX8_settle : xMF mX8_settle 0 := ⟨by decide +kernel, xTb_mem 627 (by decide +kernel) rfl, xTb_mem 55 (by decide +kernel) rfl, by decide +kernel, by decide +kernel, by decide +kernel, by decide⟩
theorem VX8_settle : xMV mX8_settle := ⟨xTb_mem 626 (by decide +kernel) rfl, xTb_mem 11 (by decide +kernel) rfl⟩
def tX8_hindranceTo : List (Nat × Instr × Nat) := [(0, .aload_n 0, 1), (1, .getfield 19, 3), (4, .iload_n 1, 1), (5, .invokevirtual 108, 3), (8, .ifCond .eq 23, 3), (11, .iload_n 2, 1), (12, .iconst 2, 1), (13, .if_icmp .lt 18, 3), (16, .iload_n 2, 1), (17, .iconst 4, 1), (18, .if_icmp .gt 13, 3), (21, .iload_n 3, 1), (22, .iconst (-1), 1), (23, .if_icmp .lt 8, 3), (26, .iload_n 3, 1), (27, .iload_n 2, 1), (28, .if_icmp .lt 5, 3), (31, .iconst (-1), 1), (32, .ireturn, 1), (33, .aload_n 0, 1), (34, .getfield 42, 3), (37, .iload_n 1, 1), (38, .iload_n 2, 1), (39, .invokevirtual 269, 3), (42, .ifCond .eq 20, 3), (45, .aload_n 0, 1), (46, .getfield 26, 3), (49, .aload_n 0, 1), (50, .getfield 19, 3), (53, .iload_n 1, 1), (54, .iload_n 2, 1), (55, .iload_n 3, 1), (56, .invokevirtual 273, 3), (59, .ifCond .eq 6, 3), (62, .bipush (-2), 2), (64, .ireturn, 1), (65, .aload_n 0, 1), (66, .getfield 26, 3), (69, .getfield 97, 3), (72, .bipush 8, 2), (74, .if_icmp .ge 7, 3), (77, .iconst 0, 1), (78, .goto 5, 3), (81, .bipush (-3), 2), (83, .ireturn, 1)]
theorem DX8_hindranceTo : xdt cX8_hindranceTo tX8_hindranceTo = true := by decide +kernel
abbrev mX8_hindranceTo : XM := (cX8_hindranceTo, yX8_hindranceTo, 4, (some .int), 259)
theorem FX8_hindranceTo : xMF mX8_hindranceTo 3 := ⟨by decide +kernel, xTb_mem 648 (by decide +kernel) rfl, xTb_mem 55 (by decide +kernel) rfl, by decide +kernel, by decide +kernel, by decide +kernel, by decide⟩
theorem VX8_hindranceTo : xMV mX8_hindranceTo := ⟨xTb_mem 647 (by decide +kernel) rfl, xTb_mem 12 (by decide +kernel) rfl⟩
def tX8_letterOf : List (Nat × Instr × Nat) := [(0, .iload_n 0, 1), (1, .ifCond .lt 19, 3), (4, .iload_n 0, 1), (5, .bipush 11, 2), (7, .if_icmp .gt 13, 3), (10, .ldc_w 277, 3), (13, .iload_n 0, 1), (14, .invokevirtual 72, 3), (17, .goto 5, 3), (20, .bipush (-4), 2), (22, .ireturn, 1)]
theorem DX8_letterOf : xdt cX8_letterOf tX8_letterOf = true := by decide +kernel
abbrev mX8_letterOf : XM := (cX8_letterOf, yX8_letterOf, 1, (some .int), 259)
theorem FX8_letterOf : xMF mX8_letterOf 1 := ⟨by decide +kernel, xTb_mem 639 (by decide +kernel) rfl, xTb_mem 55 (by decide +kernel) rfl, by decide +kernel, by decide +kernel, by decide +kernel, by decide⟩
theorem VX8_letterOf : xMS mX8_letterOf := xTb_mem 638 (by decide +kernel) rfl
def tX8_isSimple : List (Nat × Instr × Nat) := [(0, .iload_n 0, 1), (1, .ifCond .lt 13, 3), (4, .iload_n 0, 1), (5, .bipush 6, 2), (7, .if_icmp .gt 7, 3), (10, .iconst 1, 1), (11, .goto 4, 3), (14, .iconst 0, 1), (15, .ireturn, 1)]
theorem DX8_isSimple : xdt cX8_isSimple tX8_isSimple = true := by decide +kernel
abbrev mX8_isSimple : XM := (cX8_isSimple, yX8_isSimple, 1, (some .boolean), 259)
theorem FX8_isSimple : xMF mX8_isSimple 1 := ⟨by decide +kernel, xTb_mem 497 (by decide +kernel) rfl, xTb_mem 55 (by decide +kernel) rfl, by decide +kernel, by decide +kernel, by decide +kernel, by decide⟩
theorem VX8_isSimple : xMS mX8_isSimple := xTb_mem 496 (by decide +kernel) rfl
def tX8_hasTarget : List (Nat × Instr × Nat) := [(0, .iload_n 0, 1), (1, .bipush 6, 2), (3, .if_icmp .le 13, 3), (6, .iload_n 0, 1), (7, .bipush 9, 2), (9, .if_icmp .gt 7, 3), (12, .iconst 1, 1), (13, .goto 4, 3), (16, .iconst 0, 1), (17, .ireturn, 1)]
theorem DX8_hasTarget : xdt cX8_hasTarget tX8_hasTarget = true := by decide +kernel
abbrev mX8_hasTarget : XM := (cX8_hasTarget, yX8_hasTarget, 1, (some .boolean), 259)
theorem FX8_hasTarget : xMF mX8_hasTarget 1 := ⟨by decide +kernel, xTb_mem 494 (by decide +kernel) rfl, xTb_mem 55 (by decide +kernel) rfl, by decide +kernel, by decide +kernel, by decide +kernel, by decide⟩
theorem VX8_hasTarget : xMS mX8_hasTarget := xTb_mem 493 (by decide +kernel) rfl
def tX8_nibblesOf : List (Nat × Instr × Nat) := [(0, .iload_n 0, 1), (1, .invokestatic 279, 3), (4, .ifCond .eq 5, 3), (7, .iconst 2, 1), (8, .ireturn, 1), (9, .iload_n 0, 1), (10, .invokestatic 282, 3), (13, .ifCond .eq 7, 3), (16, .iconst 4, 1), (17, .goto 4, 3), (20, .iconst 1, 1), (21, .ireturn, 1)]
theorem DX8_nibblesOf : xdt cX8_nibblesOf tX8_nibblesOf = true := by decide +kernel
abbrev mX8_nibblesOf : XM := (cX8_nibblesOf, yX8_nibblesOf, 1, (some .int), 259)
theorem FX8_nibblesOf : xMF mX8_nibblesOf 1 := ⟨by decide +kernel, xTb_mem 550 (by decide +kernel) rfl, xTb_mem 55 (by decide +kernel) rfl, by decide +kernel, by decide +kernel, by decide +kernel, by decide⟩
theorem VX8_nibblesOf : xMS mX8_nibblesOf := xTb_mem 549 (by decide +kernel) rfl
def tX8_referenceNibbles : List (Nat × Instr × Nat) := [(0, .iload_n 0, 1), (1, .ifCond .ge 7, 3), (4, .iconst 2, 1), (5, .goto 4, 3), (8, .iconst 3, 1), (9, .ireturn, 1)]
theorem DX8_referenceNibbles : xdt cX8_referenceNibbles tX8_referenceNibbles = true := by decide +kernel
abbrev mX8_referenceNibbles : XM := (cX8_referenceNibbles, yX8_referenceNibbles, 1, (some .int), 259)
theorem FX8_referenceNibbles : xMF mX8_referenceNibbles 1 := ⟨by decide +kernel, xTb_mem 567 (by decide +kernel) rfl, xTb_mem 55 (by decide +kernel) rfl, by decide +kernel, by decide +kernel, by decide +kernel, by decide⟩
theorem VX8_referenceNibbles : xMS mX8_referenceNibbles := xTb_mem 566 (by decide +kernel) rfl
def tX8_entryNibbles : List (Nat × Instr × Nat) := [(0, .iconst 1, 1), (1, .iconst 2, 1), (2, .iload_n 0, 1), (3, .imul, 1), (4, .iadd, 1), (5, .ireturn, 1)]
theorem DX8_entryNibbles : xdt cX8_entryNibbles tX8_entryNibbles = true := by decide +kernel
abbrev mX8_entryNibbles : XM := (cX8_entryNibbles, yX8_entryNibbles, 1, (some .int), 259)
theorem FX8_entryNibbles : xMF mX8_entryNibbles 1 := ⟨by decide +kernel, xTb_mem 705 (by decide +kernel) rfl, xTb_mem 55 (by decide +kernel) rfl, by decide +kernel, by decide +kernel, by decide +kernel, by decide⟩
theorem VX8_entryNibbles : xMS mX8_entryNibbles := xTb_mem 704 (by decide +kernel) rfl
end
section
def tX9_init : List (Nat × Instr × Nat) := [(0, .aload_n 0, 1), (1, .invokespecial 1, 3), (4, .aload_n 0, 1), (5, .sipush 200, 3), (8, .newarray .int, 2), (10, .putfield 7, 3), (13, .aload_n 0, 1), (14, .bipush 48, 2), (16, .newarray .int, 2), (18, .putfield 13, 3), (21, .aload_n 0, 1), (22, .bipush 48, 2), (24, .newarray .int, 2), (26, .putfield 16, 3), (29, .aload_n 0, 1), (30, .bipush 48, 2), (32, .newarray .int, 2), (34, .putfield 19, 3), (37, .aload_n 0, 1), (38, .bipush 48, 2), (40, .newarray .int, 2), (42, .putfield 22, 3), (45, .aload_n 0, 1), (46, .bipush 48, 2), (48, .newarray .int, 2), (50, .putfield 25, 3), (53, .aload_n 0, 1), (54, .bipush 93, 2), (56, .newarray .int, 2), (58, .putfield 28, 3), (61, .aload_n 0, 1), (62, .sipush 498, 3), (65, .newarray .int, 2), (67, .putfield 31, 3), (70, .aload_n 0, 1), (71, .bipush 49, 2), (73, .newarray .int, 2), (75, .putfield 34, 3), (78, .aload_n 0, 1), (79, .bipush 48, 2), (81, .newarray .int, 2), (83, .putfield 37, 3), (86, .aload_n 0, 1), (87, .bipush 49, 2), (89, .newarray .int, 2), (91, .putfield 40, 3), (94, .aload_n 0, 1), (95, .bipush 10, 2), (97, .newarray .int, 2), (99, .putfield 43, 3), (102, .aload_n 0, 1), (103, .bipush 12, 2), (105, .newarray .int, 2), (107, .putfield 46, 3), (110, .aload_n 0, 1), (111, .iconst 5, 1), (112, .newarray .int, 2), (114, .putfield 49, 3), (117, .aload_n 0, 1), (118, .getfield 28, 3), (121, .bipush 80, 2), (123, .bipush 8, 2), (125, .iastore, 1), (126, .aload_n 0, 1), (127, .getfield 28, 3), (130, .bipush 81, 2), (132, .iconst 2, 1), (133, .iastore, 1), (134, .aload_n 0, 1), (135, .iconst 0, 1), (136, .putfield 52, 3), (139, .aload_n 0, 1), (140, .bipush 97, 2), (142, .iconst 5, 1), (143, .bipush 115, 2), (145, .iconst 0, 1), (146, .bipush 97, 2), (148, .iconst 3, 1), (149, .invokevirtual 56, 3), (152, .aload_n 0, 1), (153, .bipush 109, 2), (155, .iconst 2, 1), (156, .bipush 115, 2), (158, .iconst 1, 1), (159, .bipush 119, 2), (161, .iconst 0, 1), (162, .invokevirtual 56, 3), (165, .aload_n 0, 1), (166, .bipush 97, 2), (168, .iconst 5, 1), (169, .bipush 115, 2), (171, .iconst 0, 1), (172, .bipush 97, 2), (174, .bipush 7, 2), (176, .invokevirtual 56, 3), (179, .aload_n 0, 1), (180, .bipush 109, 2), (182, .iconst 2, 1), (183, .bipush 115, 2), (185, .iconst 1, 1), (186, .bipush 119, 2), (188, .iconst 1, 1), (189, .invokevirtual 56, 3), (192, .aload_n 0, 1), (193, .bipush 107, 2), (195, .bipush 14, 2), (197, .bipush 113, 2), (199, .bipush (-4), 2), (201, .bipush 97, 2), (203, .iconst 1, 1), (204, .invokevirtual 56, 3), (207, .aload_n 0, 1), (208, .bipush 97, 2), (210, .iconst 5, 1), (211, .bipush 115, 2), (213, .iconst 0, 1), (214, .bipush 97, 2), (216, .bipush 9, 2), (218, .invokevirtual 56, 3), (221, .aload_n 0, 1), (222, .bipush 109, 2), (224, .iconst 2, 1), (225, .bipush 115, 2), (227, .iconst 1, 1), (228, .bipush 119, 2), (230, .iconst 2, 1), (231, .invokevirtual 56, 3), (234, .aload_n 0, 1), (235, .bipush 108, 2), (237, .iconst 0, 1), (238, .bipush 122, 2), (240, .bipush 26, 2), (242, .bipush 120, 2), (244, .iconst 1, 1), (245, .invokevirtual 56, 3), (248, .aload_n 0, 1), (249, .bipush 115, 2), (251, .iconst 0, 1), (252, .bipush 106, 2), (254, .bipush 16, 2), (256, .bipush 104, 2), (258, .bipush (-4), 2), (260, .invokevirtual 56, 3), (263, .aload_n 0, 1), (264, .invokevirtual 60, 3), (267, .return_, 1)]
theorem DX9_init : xdt cX9_init tX9_init = true := by decide +kernel
abbrev mX9_init : XM := (cX9_init, yX9_init, 1, none, 274)
theorem FX9_init : xMF mX9_init 0 := ⟨by decide +kernel, xTb_mem 901 (by decide +kernel) rfl, xTb_mem 70 (by decide +kernel) rfl, by decide +kernel, by decide +kernel, by decide +kernel, by decide⟩
theorem VX9_init : xMI mX9_init := ⟨xTb_mem 900 (by decide +kernel) rfl, rfl⟩
def tX9_in : List (Nat × Instr × Nat) := [(0, .lload_n 0, 1), (1, .lload_n 2, 1), (2, .lcmp, 1), (3, .ifCond .lt 14, 3), (6, .lload_n 0, 1), (7, .lload 4, 2), (9, .lcmp, 1), (10, .ifCond .gt 7, 3), (13, .iconst 1, 1), (14, .goto 4, 3), (17, .iconst 0, 1), (18, .ireturn, 1)]
theorem DX9_in : xdt cX9_in tX9_in = true := by decide +kernel
abbrev mX9_in : XM := (cX9_in, yX9_in, 6, (some .boolean), 274)
theorem FX9_in : xMF mX9_in 3 := ⟨by decide +kernel, xTb_mem 1050 (by decide +kernel) rfl, xTb_mem 70 (by decide +kernel) rfl, by decide +kernel, by decide +kernel, by decide +kernel, by decide⟩
theorem VX9_in : xMS mX9_in := xTb_mem 1049 (by decide +kernel) rfl
def tX9_told : List (Nat × Instr × Nat) := [(0, .aload_n 0, 1), (1, .iload_n 1, 1), (2, .iload_n 2, 1), (3, .invokevirtual 63, 3), (6, .aload_n 0, 1), (7, .iload_n 3, 1), (8, .iload 4, 2), (10, .invokevirtual 63, 3), (13, .aload_n 0, 1), (14, .iload 5, 2), (16, .iload 6, 2), (18, .invokevirtual 63, 3), (21, .return_, 1)]
theorem DX9_told : xdt cX9_told tX9_told = true := by decide +kernel
abbrev mX9_told : XM := (cX9_told, yX9_told, 7, none, 274)
theorem FX9_told : xMF mX9_told 6 := ⟨by decide +kernel, xTb_mem 906 (by decide +kernel) rfl, xTb_mem 70 (by decide +kernel) rfl, by decide +kernel, by decide +kernel, by decide +kernel, by decide⟩
theorem VX9_told : xMV mX9_told := ⟨xTb_mem 905 (by decide +kernel) rfl, xTb_mem 23 (by decide +kernel) rfl⟩
def tX9_oneIs : List (Nat × Instr × Nat) := [(0, .aload_n 0, 1), (1, .getfield 13, 3), (4, .aload_n 0, 1), (5, .getfield 52, 3), (8, .iload_n 1, 1), (9, .iastore, 1), (10, .aload_n 0, 1), (11, .getfield 16, 3), (14, .aload_n 0, 1), (15, .getfield 52, 3), (18, .iload_n 2, 1), (19, .iastore, 1), (20, .aload_n 0, 1), (21, .dup, 1), (22, .getfield 52, 3), (25, .iconst 1, 1), (26, .iadd, 1), (27, .putfield 52, 3), (30, .return_, 1)]
theorem DX9_oneIs : xdt cX9_oneIs tX9_oneIs = true := by decide +kernel
abbrev mX9_oneIs : XM := (cX9_oneIs, yX9_oneIs, 3, none, 274)
theorem FX9_oneIs : xMF mX9_oneIs 2 := ⟨by decide +kernel, xTb_mem 910 (by decide +kernel) rfl, xTb_mem 70 (by decide +kernel) rfl, by decide +kernel, by decide +kernel, by decide +kernel, by decide⟩
theorem VX9_oneIs : xMV mX9_oneIs := ⟨xTb_mem 909 (by decide +kernel) rfl, xTb_mem 24 (by decide +kernel) rfl⟩
def tX9_write : List (Nat × Instr × Nat) := [(0, .iload_n 1, 1), (1, .i2l, 1), (2, .ldc2_w 67, 3), (5, .ldc2_w 69, 3), (8, .invokestatic 71, 3), (11, .ifCond .ne 5, 3), (14, .iconst (-1), 1), (15, .ireturn, 1), (16, .aload_n 0, 1), (17, .getfield 75, 3), (20, .sipush 200, 3), (23, .if_icmp .ne 6, 3), (26, .bipush (-3), 2), (28, .ireturn, 1), (29, .aload_n 0, 1), (30, .getfield 7, 3), (33, .aload_n 0, 1), (34, .getfield 75, 3), (37, .iload_n 1, 1), (38, .iastore, 1), (39, .aload_n 0, 1), (40, .dup, 1), (41, .getfield 75, 3), (44, .iconst 1, 1), (45, .iadd, 1), (46, .putfield 75, 3), (49, .aload_n 0, 1), (50, .getfield 75, 3), (53, .ireturn, 1)]
theorem DX9_write : xdt cX9_write tX9_write = true := by decide +kernel
abbrev mX9_write : XM := (cX9_write, yX9_write, 2, (some .int), 274)
theorem FX9_write : xMF mX9_write 1 := ⟨by decide +kernel, xTb_mem 1045 (by decide +kernel) rfl, xTb_mem 70 (by decide +kernel) rfl, by decide +kernel, by decide +kernel, by decide +kernel, by decide⟩
theorem VX9_write : xMV mX9_write := ⟨xTb_mem 1043 (by decide +kernel) rfl, xTb_mem 1044 (by decide +kernel) rfl⟩
def tX9_wipe : List (Nat × Instr × Nat) := [(0, .aload_n 0, 1), (1, .getfield 75, 3), (4, .istore_n 1, 1), (5, .aload_n 0, 1), (6, .iconst 0, 1), (7, .putfield 75, 3), (10, .iload_n 1, 1), (11, .ireturn, 1)]
theorem DX9_wipe : xdt cX9_wipe tX9_wipe = true := by decide +kernel
abbrev mX9_wipe : XM := (cX9_wipe, yX9_wipe, 2, (some .int), 274)
theorem FX9_wipe : xMF mX9_wipe 0 := ⟨by decide +kernel, xTb_mem 1054 (by decide +kernel) rfl, xTb_mem 70 (by decide +kernel) rfl, by decide +kernel, by decide +kernel, by decide +kernel, by decide⟩
theorem VX9_wipe : xMV mX9_wipe := ⟨xTb_mem 1052 (by decide +kernel) rfl, xTb_mem 1053 (by decide +kernel) rfl⟩
def tX9_isSimple : List (Nat × Instr × Nat) := [(0, .iload_n 0, 1), (1, .bipush 97, 2), (3, .if_icmp .eq 39, 3), (6, .iload_n 0, 1), (7, .bipush 109, 2), (9, .if_icmp .eq 33, 3), (12, .iload_n 0, 1), (13, .bipush 120, 2), (15, .if_icmp .eq 27, 3), (18, .iload_n 0, 1), (19, .bipush 115, 2), (21, .if_icmp .eq 21, 3), (24, .iload_n 0, 1), (25, .bipush 108, 2), (27, .if_icmp .eq 15, 3), (30, .iload_n 0, 1), (31, .bipush 112, 2), (33, .if_icmp .eq 9, 3), (36, .iload_n 0, 1), (37, .bipush 119, 2), (39, .if_icmp .ne 7, 3), (42, .iconst 1, 1), (43, .goto 4, 3), (46, .iconst 0, 1), (47, .ireturn, 1)]
theorem DX9_isSimple : xdt cX9_isSimple tX9_isSimple = true := by decide +kernel
abbrev mX9_isSimple : XM := (cX9_isSimple, yX9_isSimple, 1, (some .boolean), 274)
theorem FX9_isSimple : xMF mX9_isSimple 1 := ⟨by decide +kernel, xTb_mem 931 (by decide +kernel) rfl, xTb_mem 70 (by decide +kernel) rfl, by decide +kernel, by decide +kernel, by decide +kernel, by decide⟩
theorem VX9_isSimple : xMS mX9_isSimple := xTb_mem 930 (by decide +kernel) rfl
def tX9_hasPlace : List (Nat × Instr × Nat) := [(0, .iload_n 0, 1), (1, .bipush 106, 2), (3, .if_icmp .eq 15, 3), (6, .iload_n 0, 1), (7, .bipush 122, 2), (9, .if_icmp .eq 9, 3), (12, .iload_n 0, 1), (13, .bipush 107, 2), (15, .if_icmp .ne 7, 3), (18, .iconst 1, 1), (19, .goto 4, 3), (22, .iconst 0, 1), (23, .ireturn, 1)]
theorem DX9_hasPlace : xdt cX9_hasPlace tX9_hasPlace = true := by decide +kernel
abbrev mX9_hasPlace : XM := (cX9_hasPlace, yX9_hasPlace, 1, (some .boolean), 274)
theorem FX9_hasPlace : xMF mX9_hasPlace 1 := ⟨by decide +kernel, xTb_mem 917 (by decide +kernel) rfl, xTb_mem 70 (by decide +kernel) rfl, by decide +kernel, by decide +kernel, by decide +kernel, by decide⟩
theorem VX9_hasPlace : xMS mX9_hasPlace := xTb_mem 916 (by decide +kernel) rfl
def tX9_figureAt : List (Nat × Instr × Nat) := [(0, .iload_n 1, 1), (1, .aload_n 0, 1), (2, .getfield 75, 3), (5, .if_icmp .ge 34, 3), (8, .aload_n 0, 1), (9, .getfield 7, 3), (12, .iload_n 1, 1), (13, .iaload, 1), (14, .i2l, 1), (15, .ldc2_w 78, 3), (18, .ldc2_w 80, 3), (21, .invokestatic 71, 3), (24, .ifCond .eq 15, 3), (27, .aload_n 0, 1), (28, .getfield 7, 3), (31, .iload_n 1, 1), (32, .iaload, 1), (33, .bipush 48, 2), (35, .isub, 1), (36, .goto 5, 3), (39, .bipush (-4), 2), (41, .ireturn, 1)]
theorem DX9_figureAt : xdt cX9_figureAt tX9_figureAt = true := by decide +kernel
abbrev mX9_figureAt : XM := (cX9_figureAt, yX9_figureAt, 2, (some .int), 274)
theorem FX9_figureAt : xMF mX9_figureAt 1 := ⟨by decide +kernel, xTb_mem 1066 (by decide +kernel) rfl, xTb_mem 70 (by decide +kernel) rfl, by decide +kernel, by decide +kernel, by decide +kernel, by decide⟩
theorem VX9_figureAt : xMV mX9_figureAt := ⟨xTb_mem 1065 (by decide +kernel) rfl, xTb_mem 33 (by decide +kernel) rfl⟩
def tX9_readOne : List (Nat × Instr × Nat) := [(0, .aload_n 0, 1), (1, .getfield 7, 3), (4, .iload_n 1, 1), (5, .iaload, 1), (6, .istore_n 2, 1), (7, .aload_n 0, 1), (8, .iload_n 1, 1), (9, .iconst 1, 1), (10, .iadd, 1), (11, .invokevirtual 82, 3), (14, .istore_n 3, 1), (15, .aload_n 0, 1), (16, .iload_n 1, 1), (17, .iconst 2, 1), (18, .iadd, 1), (19, .invokevirtual 82, 3), (22, .istore 4, 2), (24, .aload_n 0, 1), (25, .getfield 52, 3), (28, .bipush 48, 2), (30, .if_icmp .ne 6, 3), (33, .bipush (-4), 2), (35, .ireturn, 1), (36, .iload_n 2, 1), (37, .invokestatic 86, 3), (40, .ifCond .eq 17, 3), (43, .iload_n 3, 1), (44, .bipush (-4), 2), (46, .if_icmp .eq 11, 3), (49, .aload_n 0, 1), (50, .iload_n 2, 1), (51, .iload_n 3, 1), (52, .invokevirtual 63, 3), (55, .iconst 2, 1), (56, .ireturn, 1), (57, .iload_n 2, 1), (58, .invokestatic 90, 3), (61, .ifCond .eq 30, 3), (64, .iload_n 3, 1), (65, .bipush (-4), 2), (67, .if_icmp .eq 24, 3), (70, .iload 4, 2), (72, .bipush (-4), 2), (74, .if_icmp .eq 17, 3), (77, .aload_n 0, 1), (78, .iload_n 2, 1), (79, .bipush 10, 2), (81, .iload_n 3, 1), (82, .imul, 1), (83, .iload 4, 2), (85, .iadd, 1), (86, .invokevirtual 63, 3), (89, .iconst 3, 1), (90, .ireturn, 1), (91, .iload_n 2, 1), (92, .bipush 113, 2), (94, .if_icmp .eq 9, 3), (97, .iload_n 2, 1), (98, .bipush 104, 2), (100, .if_icmp .ne 12, 3), (103, .aload_n 0, 1), (104, .iload_n 2, 1), (105, .bipush (-4), 2), (107, .invokevirtual 63, 3), (110, .iconst 1, 1), (111, .ireturn, 1), (112, .bipush (-4), 2), (114, .ireturn, 1)]
theorem DX9_readOne : xdt cX9_readOne tX9_readOne = true := by decide +kernel
abbrev mX9_readOne : XM := (cX9_readOne, yX9_readOne, 5, (some .int), 274)
theorem FX9_readOne : xMF mX9_readOne 1 := ⟨by decide +kernel, xTb_mem 1062 (by decide +kernel) rfl, xTb_mem 70 (by decide +kernel) rfl, by decide +kernel, by decide +kernel, by decide +kernel, by decide⟩
theorem VX9_readOne : xMV mX9_readOne := ⟨xTb_mem 1061 (by decide +kernel) rfl, xTb_mem 32 (by decide +kernel) rfl⟩
def tX9_lettersOf : List (Nat × Instr × Nat) := [(0, .iload_n 0, 1), (1, .invokestatic 86, 3), (4, .ifCond .eq 7, 3), (7, .iconst 2, 1), (8, .goto 15, 3), (11, .iload_n 0, 1), (12, .invokestatic 90, 3), (15, .ifCond .eq 7, 3), (18, .iconst 3, 1), (19, .goto 4, 3), (22, .iconst 1, 1), (23, .ireturn, 1)]
theorem DX9_lettersOf : xdt cX9_lettersOf tX9_lettersOf = true := by decide +kernel
abbrev mX9_lettersOf : XM := (cX9_lettersOf, yX9_lettersOf, 1, (some .int), 274)
theorem FX9_lettersOf : xMF mX9_lettersOf 1 := ⟨by decide +kernel, xTb_mem 1071 (by decide +kernel) rfl, xTb_mem 70 (by decide +kernel) rfl, by decide +kernel, by decide +kernel, by decide +kernel, by decide⟩
theorem VX9_lettersOf : xMS mX9_lettersOf := xTb_mem 1070 (by decide +kernel) rfl
def tX9_fault : List (Nat × Instr × Nat) := [(0, .aload_n 0, 1), (1, .iconst 0, 1), (2, .putfield 52, 3), (5, .iconst 0, 1), (6, .istore_n 1, 1), (7, .iload_n 1, 1), (8, .aload_n 0, 1), (9, .getfield 75, 3), (12, .if_icmp .ge 24, 3), (15, .aload_n 0, 1), (16, .iload_n 1, 1), (17, .invokevirtual 93, 3), (20, .istore_n 2, 1), (21, .iload_n 2, 1), (22, .bipush (-4), 2), (24, .if_icmp .ne 5, 3), (27, .iload_n 1, 1), (28, .ireturn, 1), (29, .iload_n 1, 1), (30, .iload_n 2, 1), (31, .iadd, 1), (32, .istore_n 1, 1), (33, .goto (-26), 3), (36, .iconst 0, 1), (37, .istore_n 1, 1), (38, .iconst 0, 1), (39, .istore_n 2, 1), (40, .iload_n 2, 1), (41, .aload_n 0, 1), (42, .getfield 52, 3), (45, .if_icmp .ge 48, 3), (48, .aload_n 0, 1), (49, .getfield 13, 3), (52, .iload_n 2, 1), (53, .iaload, 1), (54, .invokestatic 90, 3), (57, .ifCond .eq 18, 3), (60, .aload_n 0, 1), (61, .getfield 16, 3), (64, .iload_n 2, 1), (65, .iaload, 1), (66, .aload_n 0, 1), (67, .getfield 52, 3), (70, .if_icmp .lt 5, 3), (73, .iload_n 1, 1), (74, .ireturn, 1), (75, .iload_n 1, 1), (76, .aload_n 0, 1), (77, .getfield 13, 3), (80, .iload_n 2, 1), (81, .iaload, 1), (82, .invokestatic 96, 3), (85, .iadd, 1), (86, .istore_n 1, 1), (87, .iinc 2 1, 3), (90, .goto (-50), 3), (93, .bipush (-4), 2), (95, .ireturn, 1)]
theorem DX9_fault : xdt cX9_fault tX9_fault = true := by decide +kernel
abbrev mX9_fault : XM := (cX9_fault, yX9_fault, 3, (some .int), 274)
theorem FX9_fault : xMF mX9_fault 0 := ⟨by decide +kernel, xTb_mem 1058 (by decide +kernel) rfl, xTb_mem 70 (by decide +kernel) rfl, by decide +kernel, by decide +kernel, by decide +kernel, by decide⟩
theorem VX9_fault : xMV mX9_fault := ⟨xTb_mem 1056 (by decide +kernel) rfl, xTb_mem 1057 (by decide +kernel) rfl⟩
def tX9_lay : List (Nat × Instr × Nat) := [(0, .aload_n 0, 1), (1, .invokevirtual 99, 3), (4, .bipush (-4), 2), (6, .if_icmp .ne 10, 3), (9, .aload_n 0, 1), (10, .getfield 52, 3), (13, .ifCond .ne 6, 3), (16, .bipush (-2), 2), (18, .ireturn, 1), (19, .aload_n 0, 1), (20, .invokevirtual 60, 3), (23, .aload_n 0, 1), (24, .getfield 103, 3), (27, .ireturn, 1)]
theorem DX9_lay : xdt cX9_lay tX9_lay = true := by decide +kernel
abbrev mX9_lay : XM := (cX9_lay, yX9_lay, 1, (some .int), 274)
theorem FX9_lay : xMF mX9_lay 0 := ⟨by decide +kernel, xTb_mem 1075 (by decide +kernel) rfl, xTb_mem 70 (by decide +kernel) rfl, by decide +kernel, by decide +kernel, by decide +kernel, by decide⟩
theorem VX9_lay : xMV mX9_lay := ⟨xTb_mem 1073 (by decide +kernel) rfl, xTb_mem 1074 (by decide +kernel) rfl⟩
def tX9_begin : List (Nat × Instr × Nat) := [(0, .aload_n 0, 1), (1, .aload_n 0, 1), (2, .getfield 52, 3), (5, .putfield 103, 3), (8, .iconst 0, 1), (9, .istore_n 1, 1), (10, .iload_n 1, 1), (11, .aload_n 0, 1), (12, .getfield 103, 3), (15, .if_icmp .ge 40, 3), (18, .aload_n 0, 1), (19, .getfield 19, 3), (22, .iload_n 1, 1), (23, .aload_n 0, 1), (24, .getfield 13, 3), (27, .iload_n 1, 1), (28, .iaload, 1), (29, .iastore, 1), (30, .aload_n 0, 1), (31, .getfield 22, 3), (34, .iload_n 1, 1), (35, .aload_n 0, 1), (36, .getfield 16, 3), (39, .iload_n 1, 1), (40, .iaload, 1), (41, .iastore, 1), (42, .aload_n 0, 1), (43, .getfield 25, 3), (46, .iload_n 1, 1), (47, .iconst 0, 1), (48, .iastore, 1), (49, .iinc 1 1, 3), (52, .goto (-42), 3), (55, .iconst 0, 1), (56, .istore_n 1, 1), (57, .iload_n 1, 1), (58, .aload_n 0, 1), (59, .getfield 103, 3), (62, .if_icmp .ge 33, 3), (65, .aload_n 0, 1), (66, .getfield 19, 3), (69, .iload_n 1, 1), (70, .iaload, 1), (71, .invokestatic 90, 3), (74, .ifCond .eq 15, 3), (77, .aload_n 0, 1), (78, .getfield 25, 3), (81, .aload_n 0, 1), (82, .getfield 22, 3), (85, .iload_n 1, 1), (86, .iaload, 1), (87, .iconst 1, 1), (88, .iastore, 1), (89, .iinc 1 1, 3), (92, .goto (-35), 3), (95, .aload_n 0, 1), (96, .getfield 28, 3), (99, .bipush 82, 2), (101, .iconst 0, 1), (102, .iastore, 1), (103, .aload_n 0, 1), (104, .iconst 0, 1), (105, .putfield 106, 3), (108, .aload_n 0, 1), (109, .iconst 0, 1), (110, .putfield 109, 3), (113, .aload_n 0, 1), (114, .invokevirtual 113, 3), (117, .return_, 1)]
theorem DX9_begin : xdt cX9_begin tX9_begin = true := by decide +kernel
abbrev mX9_begin : XM := (cX9_begin, yX9_begin, 2, none, 274)
theorem FX9_begin : xMF mX9_begin 0 := ⟨by decide +kernel, xTb_mem 914 (by decide +kernel) rfl, xTb_mem 70 (by decide +kernel) rfl, by decide +kernel, by decide +kernel, by decide +kernel, by decide⟩
theorem VX9_begin : xMV mX9_begin := ⟨xTb_mem 913 (by decide +kernel) rfl, xTb_mem 25 (by decide +kernel) rfl⟩
def tX9_isCode : List (Nat × Instr × Nat) := [(0, .iload_n 1, 1), (1, .i2l, 1), (2, .lconst 0, 1), (3, .aload_n 0, 1), (4, .getfield 103, 3), (7, .iconst 1, 1), (8, .isub, 1), (9, .i2l, 1), (10, .invokestatic 71, 3), (13, .ireturn, 1)]
theorem DX9_isCode : xdt cX9_isCode tX9_isCode = true := by decide +kernel
abbrev mX9_isCode : XM := (cX9_isCode, yX9_isCode, 2, (some .boolean), 274)
theorem FX9_isCode : xMF mX9_isCode 1 := ⟨by decide +kernel, xTb_mem 1088 (by decide +kernel) rfl, xTb_mem 70 (by decide +kernel) rfl, by decide +kernel, by decide +kernel, by decide +kernel, by decide⟩
theorem VX9_isCode : xMV mX9_isCode := ⟨xTb_mem 1087 (by decide +kernel) rfl, xTb_mem 35 (by decide +kernel) rfl⟩
def tX9_isEntry : List (Nat × Instr × Nat) := [(0, .iload_n 1, 1), (1, .i2l, 1), (2, .lconst 0, 1), (3, .aload_n 0, 1), (4, .getfield 28, 3), (7, .bipush 82, 2), (9, .iaload, 1), (10, .iconst 1, 1), (11, .isub, 1), (12, .i2l, 1), (13, .invokestatic 71, 3), (16, .ireturn, 1)]
theorem DX9_isEntry : xdt cX9_isEntry tX9_isEntry = true := by decide +kernel
abbrev mX9_isEntry : XM := (cX9_isEntry, yX9_isEntry, 2, (some .boolean), 274)
theorem FX9_isEntry : xMF mX9_isEntry 1 := ⟨by decide +kernel, xTb_mem 1111 (by decide +kernel) rfl, xTb_mem 70 (by decide +kernel) rfl, by decide +kernel, by decide +kernel, by decide +kernel, by decide⟩
theorem VX9_isEntry : xMV mX9_isEntry := ⟨xTb_mem 1110 (by decide +kernel) rfl, xTb_mem 39 (by decide +kernel) rfl⟩
def tX9_isSequence : List (Nat × Instr × Nat) := [(0, .iload_n 1, 1), (1, .iload_n 2, 1), (2, .iadd, 1), (3, .aload_n 0, 1), (4, .getfield 103, 3), (7, .if_icmp .gt 28, 3), (10, .iload_n 1, 1), (11, .aload_n 0, 1), (12, .getfield 28, 3), (15, .bipush 80, 2), (17, .iaload, 1), (18, .idiv, 1), (19, .iload_n 1, 1), (20, .iload_n 2, 1), (21, .iadd, 1), (22, .iconst 1, 1), (23, .isub, 1), (24, .aload_n 0, 1), (25, .getfield 28, 3), (28, .bipush 80, 2), (30, .iaload, 1), (31, .idiv, 1), (32, .if_icmp .eq 5, 3), (35, .iconst 0, 1), (36, .ireturn, 1), (37, .iconst 1, 1), (38, .istore_n 3, 1), (39, .iload_n 1, 1), (40, .istore 4, 2), (42, .iload 4, 2), (44, .iload_n 1, 1), (45, .iload_n 2, 1), (46, .iadd, 1), (47, .if_icmp .ge 48, 3), (50, .iload_n 3, 1), (51, .ifCond .eq 36, 3), (54, .aload_n 0, 1), (55, .getfield 19, 3), (58, .iload 4, 2), (60, .iaload, 1), (61, .invokestatic 86, 3), (64, .ifCond .eq 23, 3), (67, .iload 4, 2), (69, .iload_n 1, 1), (70, .if_icmp .eq 13, 3), (73, .aload_n 0, 1), (74, .getfield 25, 3), (77, .iload 4, 2), (79, .iaload, 1), (80, .ifCond .ne 7, 3), (83, .iconst 1, 1), (84, .goto 4, 3), (87, .iconst 0, 1), (88, .istore_n 3, 1), (89, .iinc 4 1, 3), (92, .goto (-50), 3), (95, .iload_n 3, 1), (96, .ireturn, 1)]
theorem DX9_isSequence : xdt cX9_isSequence tX9_isSequence = true := by decide +kernel
abbrev mX9_isSequence : XM := (cX9_isSequence, yX9_isSequence, 5, (some .boolean), 274)
theorem FX9_isSequence : xMF mX9_isSequence 2 := ⟨by decide +kernel, xTb_mem 943 (by decide +kernel) rfl, xTb_mem 70 (by decide +kernel) rfl, by decide +kernel, by decide +kernel, by decide +kernel, by decide⟩
theorem VX9_isSequence : xMV mX9_isSequence := ⟨xTb_mem 942 (by decide +kernel) rfl, xTb_mem 30 (by decide +kernel) rfl⟩
def tX9_entryAt : List (Nat × Instr × Nat) := [(0, .iload_n 1, 1), (1, .bipush 8, 2), (3, .if_icmp .ge 10, 3), (6, .bipush 10, 2), (8, .iload_n 1, 1), (9, .imul, 1), (10, .goto 5, 3), (13, .bipush 83, 2), (15, .ireturn, 1)]
theorem DX9_entryAt : xdt cX9_entryAt tX9_entryAt = true := by decide +kernel
abbrev mX9_entryAt : XM := (cX9_entryAt, yX9_entryAt, 2, (some .int), 274)
theorem FX9_entryAt : xMF mX9_entryAt 1 := ⟨by decide +kernel, xTb_mem 939 (by decide +kernel) rfl, xTb_mem 70 (by decide +kernel) rfl, by decide +kernel, by decide +kernel, by decide +kernel, by decide⟩
theorem VX9_entryAt : xMV mX9_entryAt := ⟨xTb_mem 938 (by decide +kernel) rfl, xTb_mem 29 (by decide +kernel) rfl⟩
def tX9_matches : List (Nat × Instr × Nat) := [(0, .aload_n 0, 1), (1, .iload_n 2, 1), (2, .invokevirtual 116, 3), (5, .istore_n 3, 1), (6, .aload_n 0, 1), (7, .getfield 28, 3), (10, .iload_n 3, 1), (11, .iaload, 1), (12, .istore 4, 2), (14, .aload_n 0, 1), (15, .iload_n 1, 1), (16, .iload 4, 2), (18, .invokevirtual 119, 3), (21, .istore 5, 2), (23, .iconst 0, 1), (24, .istore 6, 2), (26, .iload 6, 2), (28, .iload 4, 2), (30, .if_icmp .ge 81, 3), (33, .iload 5, 2), (35, .ifCond .eq 76, 3), (38, .aload_n 0, 1), (39, .getfield 19, 3), (42, .iload_n 1, 1), (43, .iload 6, 2), (45, .iadd, 1), (46, .iaload, 1), (47, .aload_n 0, 1), (48, .getfield 28, 3), (51, .iload_n 3, 1), (52, .iconst 2, 1), (53, .iadd, 1), (54, .iload 6, 2), (56, .iadd, 1), (57, .iaload, 1), (58, .if_icmp .ne 44, 3), (61, .iload 6, 2), (63, .aload_n 0, 1), (64, .getfield 28, 3), (67, .iload_n 3, 1), (68, .iconst 1, 1), (69, .iadd, 1), (70, .iaload, 1), (71, .if_icmp .eq 27, 3), (74, .aload_n 0, 1), (75, .getfield 22, 3), (78, .iload_n 1, 1), (79, .iload 6, 2), (81, .iadd, 1), (82, .iaload, 1), (83, .aload_n 0, 1), (84, .getfield 28, 3), (87, .iload_n 3, 1), (88, .bipush 6, 2), (90, .iadd, 1), (91, .iload 6, 2), (93, .iadd, 1), (94, .iaload, 1), (95, .if_icmp .ne 7, 3), (98, .iconst 1, 1), (99, .goto 4, 3), (102, .iconst 0, 1), (103, .istore 5, 2), (105, .iinc 6 1, 3), (108, .goto (-82), 3), (111, .iload 5, 2), (113, .ireturn, 1)]
theorem DX9_matches : xdt cX9_matches tX9_matches = true := by decide +kernel
abbrev mX9_matches : XM := (cX9_matches, yX9_matches, 7, (some .boolean), 274)
theorem FX9_matches : xMF mX9_matches 2 := ⟨by decide +kernel, xTb_mem 935 (by decide +kernel) rfl, xTb_mem 70 (by decide +kernel) rfl, by decide +kernel, by decide +kernel, by decide +kernel, by decide⟩
theorem VX9_matches : xMV mX9_matches := ⟨xTb_mem 934 (by decide +kernel) rfl, xTb_mem 28 (by decide +kernel) rfl⟩
def tX9_lays : List (Nat × Instr × Nat) := [(0, .aload_n 0, 1), (1, .iload_n 1, 1), (2, .invokevirtual 116, 3), (5, .istore 5, 2), (7, .aload_n 0, 1), (8, .getfield 28, 3), (11, .iload 5, 2), (13, .iload_n 3, 1), (14, .iastore, 1), (15, .aload_n 0, 1), (16, .getfield 28, 3), (19, .iload 5, 2), (21, .iconst 1, 1), (22, .iadd, 1), (23, .iload 4, 2), (25, .ifCond .ge 8, 3), (28, .bipush (-4), 2), (30, .goto 5, 3), (33, .iload 4, 2), (35, .iastore, 1), (36, .iconst 0, 1), (37, .istore 6, 2), (39, .iload 6, 2), (41, .iconst 4, 1), (42, .if_icmp .ge 80, 3), (45, .aload_n 0, 1), (46, .getfield 28, 3), (49, .iload 5, 2), (51, .iconst 2, 1), (52, .iadd, 1), (53, .iload 6, 2), (55, .iadd, 1), (56, .iload 6, 2), (58, .iload_n 3, 1), (59, .if_icmp .ge 15, 3), (62, .aload_n 0, 1), (63, .getfield 19, 3), (66, .iload_n 2, 1), (67, .iload 6, 2), (69, .iadd, 1), (70, .iaload, 1), (71, .goto 4, 3), (74, .iconst 0, 1), (75, .iastore, 1), (76, .aload_n 0, 1), (77, .getfield 28, 3), (80, .iload 5, 2), (82, .bipush 6, 2), (84, .iadd, 1), (85, .iload 6, 2), (87, .iadd, 1), (88, .iload 6, 2), (90, .iload_n 3, 1), (91, .if_icmp .ge 22, 3), (94, .iload 6, 2), (96, .iload 4, 2), (98, .if_icmp .eq 15, 3), (101, .aload_n 0, 1), (102, .getfield 22, 3), (105, .iload_n 2, 1), (106, .iload 6, 2), (108, .iadd, 1), (109, .iaload, 1), (110, .goto 5, 3), (113, .bipush (-4), 2), (115, .iastore, 1), (116, .iinc 6 1, 3), (119, .goto (-80), 3), (122, .return_, 1)]
theorem DX9_lays : xdt cX9_lays tX9_lays = true := by decide +kernel
abbrev mX9_lays : XM := (cX9_lays, yX9_lays, 7, none, 274)
theorem FX9_lays : xMF mX9_lays 4 := ⟨by decide +kernel, xTb_mem 1099 (by decide +kernel) rfl, xTb_mem 70 (by decide +kernel) rfl, by decide +kernel, by decide +kernel, by decide +kernel, by decide⟩
theorem VX9_lays : xMV mX9_lays := ⟨xTb_mem 1098 (by decide +kernel) rfl, xTb_mem 37 (by decide +kernel) rfl⟩
def tX9_hasLike : List (Nat × Instr × Nat) := [(0, .aload_n 0, 1), (1, .bipush 8, 2), (3, .iload_n 1, 1), (4, .iload_n 2, 1), (5, .iload_n 3, 1), (6, .invokevirtual 123, 3), (9, .iconst 0, 1), (10, .istore 4, 2), (12, .iconst 0, 1), (13, .istore 5, 2), (15, .iload 5, 2), (17, .aload_n 0, 1), (18, .getfield 28, 3), (21, .bipush 82, 2), (23, .iaload, 1), (24, .if_icmp .ge 83, 3), (27, .iconst 1, 1), (28, .istore 6, 2), (30, .iconst 0, 1), (31, .istore 7, 2), (33, .iload 7, 2), (35, .bipush 10, 2), (37, .if_icmp .ge 47, 3), (40, .iload 6, 2), (42, .ifCond .eq 33, 3), (45, .aload_n 0, 1), (46, .getfield 28, 3), (49, .bipush 10, 2), (51, .iload 5, 2), (53, .imul, 1), (54, .iload 7, 2), (56, .iadd, 1), (57, .iaload, 1), (58, .aload_n 0, 1), (59, .getfield 28, 3), (62, .bipush 83, 2), (64, .iload 7, 2), (66, .iadd, 1), (67, .iaload, 1), (68, .if_icmp .ne 7, 3), (71, .iconst 1, 1), (72, .goto 4, 3), (75, .iconst 0, 1), (76, .istore 6, 2), (78, .iinc 7 1, 3), (81, .goto (-48), 3), (84, .iload 4, 2), (86, .ifCond .ne 8, 3), (89, .iload 6, 2), (91, .ifCond .eq 7, 3), (94, .iconst 1, 1), (95, .goto 4, 3), (98, .iconst 0, 1), (99, .istore 4, 2), (101, .iinc 5 1, 3), (104, .goto (-89), 3), (107, .iload 4, 2), (109, .ireturn, 1)]
theorem DX9_hasLike : xdt cX9_hasLike tX9_hasLike = true := by decide +kernel
abbrev mX9_hasLike : XM := (cX9_hasLike, yX9_hasLike, 8, (some .boolean), 274)
theorem FX9_hasLike : xMF mX9_hasLike 3 := ⟨by decide +kernel, xTb_mem 1095 (by decide +kernel) rfl, xTb_mem 70 (by decide +kernel) rfl, by decide +kernel, by decide +kernel, by decide +kernel, by decide⟩
theorem VX9_hasLike : xMV mX9_hasLike := ⟨xTb_mem 1094 (by decide +kernel) rfl, xTb_mem 36 (by decide +kernel) rfl⟩
def tX9_refers : List (Nat × Instr × Nat) := [(0, .aload_n 0, 1), (1, .getfield 28, 3), (4, .aload_n 0, 1), (5, .iload_n 1, 1), (6, .invokevirtual 116, 3), (9, .iconst 1, 1), (10, .iadd, 1), (11, .iaload, 1), (12, .bipush (-4), 2), (14, .if_icmp .ne 7, 3), (17, .iconst 2, 1), (18, .goto 4, 3), (21, .iconst 3, 1), (22, .ireturn, 1)]
theorem DX9_refers : xdt cX9_refers tX9_refers = true := by decide +kernel
abbrev mX9_refers : XM := (cX9_refers, yX9_refers, 2, (some .int), 274)
theorem FX9_refers : xMF mX9_refers 1 := ⟨by decide +kernel, xTb_mem 947 (by decide +kernel) rfl, xTb_mem 70 (by decide +kernel) rfl, by decide +kernel, by decide +kernel, by decide +kernel, by decide⟩
theorem VX9_refers : xMV mX9_refers := ⟨xTb_mem 946 (by decide +kernel) rfl, xTb_mem 31 (by decide +kernel) rfl⟩
def tX9_own : List (Nat × Instr × Nat) := [(0, .iload_n 0, 1), (1, .invokestatic 86, 3), (4, .ifCond .eq 7, 3), (7, .iconst 2, 1), (8, .goto 15, 3), (11, .iload_n 0, 1), (12, .invokestatic 90, 3), (15, .ifCond .eq 7, 3), (18, .iconst 4, 1), (19, .goto 4, 3), (22, .iconst 1, 1), (23, .ireturn, 1)]
theorem DX9_own : xdt cX9_own tX9_own = true := by decide +kernel
abbrev mX9_own : XM := (cX9_own, yX9_own, 1, (some .int), 274)
theorem FX9_own : xMF mX9_own 1 := ⟨by decide +kernel, xTb_mem 928 (by decide +kernel) rfl, xTb_mem 70 (by decide +kernel) rfl, by decide +kernel, by decide +kernel, by decide +kernel, by decide⟩
theorem VX9_own : xMS mX9_own := xTb_mem 927 (by decide +kernel) rfl
def tX9_coverWith : List (Nat × Instr × Nat) := [(0, .aload_n 0, 1), (1, .getfield 34, 3), (4, .aload_n 0, 1), (5, .getfield 103, 3), (8, .iconst 0, 1), (9, .iastore, 1), (10, .aload_n 0, 1), (11, .getfield 103, 3), (14, .iconst 1, 1), (15, .isub, 1), (16, .istore_n 2, 1), (17, .iload_n 2, 1), (18, .ifCond .lt 183, 3), (21, .aload_n 0, 1), (22, .getfield 34, 3), (25, .iload_n 2, 1), (26, .aload_n 0, 1), (27, .getfield 19, 3), (30, .iload_n 2, 1), (31, .iaload, 1), (32, .invokestatic 127, 3), (35, .aload_n 0, 1), (36, .getfield 34, 3), (39, .iload_n 2, 1), (40, .iconst 1, 1), (41, .iadd, 1), (42, .iaload, 1), (43, .iadd, 1), (44, .iastore, 1), (45, .aload_n 0, 1), (46, .getfield 37, 3), (49, .iload_n 2, 1), (50, .bipush (-4), 2), (52, .iastore, 1), (53, .iconst 0, 1), (54, .istore_n 3, 1), (55, .iload_n 3, 1), (56, .aload_n 0, 1), (57, .getfield 28, 3), (60, .bipush 82, 2), (62, .iaload, 1), (63, .if_icmp .gt 132, 3), (66, .iload_n 3, 1), (67, .aload_n 0, 1), (68, .getfield 28, 3), (71, .bipush 82, 2), (73, .iaload, 1), (74, .if_icmp .ge 7, 3), (77, .iload_n 3, 1), (78, .goto 5, 3), (81, .bipush 8, 2), (83, .istore 4, 2), (85, .iload 4, 2), (87, .bipush 8, 2), (89, .if_icmp .lt 7, 3), (92, .iload_n 1, 1), (93, .ifCond .eq 96, 3), (96, .aload_n 0, 1), (97, .iload_n 2, 1), (98, .iload 4, 2), (100, .invokevirtual 130, 3), (103, .ifCond .eq 86, 3), (106, .aload_n 0, 1), (107, .iload 4, 2), (109, .invokevirtual 133, 3), (112, .aload_n 0, 1), (113, .getfield 34, 3), (116, .iload_n 2, 1), (117, .aload_n 0, 1), (118, .getfield 28, 3), (121, .aload_n 0, 1), (122, .iload 4, 2), (124, .invokevirtual 116, 3), (127, .iaload, 1), (128, .iadd, 1), (129, .iaload, 1), (130, .iadd, 1), (131, .istore 5, 2), (133, .aload_n 0, 1), (134, .getfield 37, 3), (137, .iload_n 2, 1), (138, .iload 5, 2), (140, .aload_n 0, 1), (141, .getfield 34, 3), (144, .iload_n 2, 1), (145, .iaload, 1), (146, .if_icmp .ge 8, 3), (149, .iload 4, 2), (151, .goto 9, 3), (154, .aload_n 0, 1), (155, .getfield 37, 3), (158, .iload_n 2, 1), (159, .iaload, 1), (160, .iastore, 1), (161, .aload_n 0, 1), (162, .getfield 34, 3), (165, .iload_n 2, 1), (166, .iload 5, 2), (168, .aload_n 0, 1), (169, .getfield 34, 3), (172, .iload_n 2, 1), (173, .iaload, 1), (174, .if_icmp .ge 8, 3), (177, .iload 5, 2), (179, .goto 9, 3), (182, .aload_n 0, 1), (183, .getfield 34, 3), (186, .iload_n 2, 1), (187, .iaload, 1), (188, .iastore, 1), (189, .iinc 3 1, 3), (192, .goto (-137), 3), (195, .iinc 2 (-1), 3), (198, .goto (-181), 3), (201, .aload_n 0, 1), (202, .getfield 34, 3), (205, .iconst 0, 1), (206, .iaload, 1), (207, .ireturn, 1)]
theorem DX9_coverWith : xdt cX9_coverWith tX9_coverWith = true := by decide +kernel
abbrev mX9_coverWith : XM := (cX9_coverWith, yX9_coverWith, 6, (some .int), 274)
theorem FX9_coverWith : xMF mX9_coverWith 1 := ⟨by decide +kernel, xTb_mem 925 (by decide +kernel) rfl, xTb_mem 70 (by decide +kernel) rfl, by decide +kernel, by decide +kernel, by decide +kernel, by decide⟩
theorem VX9_coverWith : xMV mX9_coverWith := ⟨xTb_mem 924 (by decide +kernel) rfl, xTb_mem 27 (by decide +kernel) rfl⟩
def tX9_tableSize : List (Nat × Instr × Nat) := [(0, .iconst 0, 1), (1, .istore_n 1, 1), (2, .iconst 0, 1), (3, .istore_n 2, 1), (4, .iload_n 2, 1), (5, .aload_n 0, 1), (6, .getfield 28, 3), (9, .bipush 82, 2), (11, .iaload, 1), (12, .if_icmp .ge 25, 3), (15, .iload_n 1, 1), (16, .iconst 1, 1), (17, .iconst 2, 1), (18, .aload_n 0, 1), (19, .getfield 28, 3), (22, .bipush 10, 2), (24, .iload_n 2, 1), (25, .imul, 1), (26, .iaload, 1), (27, .imul, 1), (28, .iadd, 1), (29, .iadd, 1), (30, .istore_n 1, 1), (31, .iinc 2 1, 3), (34, .goto (-30), 3), (37, .iload_n 1, 1), (38, .ireturn, 1)]
theorem DX9_tableSize : xdt cX9_tableSize tX9_tableSize = true := by decide +kernel
abbrev mX9_tableSize : XM := (cX9_tableSize, yX9_tableSize, 3, (some .int), 274)
theorem FX9_tableSize : xMF mX9_tableSize 0 := ⟨by decide +kernel, xTb_mem 1167 (by decide +kernel) rfl, xTb_mem 70 (by decide +kernel) rfl, by decide +kernel, by decide +kernel, by decide +kernel, by decide⟩
theorem VX9_tableSize : xMV mX9_tableSize := ⟨xTb_mem 1166 (by decide +kernel) rfl, xTb_mem 43 (by decide +kernel) rfl⟩
def tX9_lines : List (Nat × Instr × Nat) := [(0, .aload_n 0, 1), (1, .getfield 103, 3), (4, .aload_n 0, 1), (5, .getfield 28, 3), (8, .bipush 80, 2), (10, .iaload, 1), (11, .iadd, 1), (12, .iconst 1, 1), (13, .isub, 1), (14, .aload_n 0, 1), (15, .getfield 28, 3), (18, .bipush 80, 2), (20, .iaload, 1), (21, .idiv, 1), (22, .ireturn, 1)]
theorem DX9_lines : xdt cX9_lines tX9_lines = true := by decide +kernel
abbrev mX9_lines : XM := (cX9_lines, yX9_lines, 1, (some .int), 274)
theorem FX9_lines : xMF mX9_lines 0 := ⟨by decide +kernel, xTb_mem 1171 (by decide +kernel) rfl, xTb_mem 70 (by decide +kernel) rfl, by decide +kernel, by decide +kernel, by decide +kernel, by decide⟩
theorem VX9_lines : xMV mX9_lines := ⟨xTb_mem 1170 (by decide +kernel) rfl, xTb_mem 44 (by decide +kernel) rfl⟩
def tX9_cover : List (Nat × Instr × Nat) := [(0, .aload_n 0, 1), (1, .iconst 0, 1), (2, .invokevirtual 136, 3), (5, .pop, 1), (6, .iconst 0, 1), (7, .istore_n 1, 1), (8, .iconst 0, 1), (9, .istore_n 2, 1), (10, .iload_n 2, 1), (11, .aload_n 0, 1), (12, .getfield 103, 3), (15, .if_icmp .ge 124, 3), (18, .aload_n 0, 1), (19, .getfield 37, 3), (22, .iload_n 2, 1), (23, .iaload, 1), (24, .bipush (-4), 2), (26, .if_icmp .ne 7, 3), (29, .iconst 1, 1), (30, .goto 17, 3), (33, .aload_n 0, 1), (34, .getfield 28, 3), (37, .bipush 10, 2), (39, .aload_n 0, 1), (40, .getfield 37, 3), (43, .iload_n 2, 1), (44, .iaload, 1), (45, .imul, 1), (46, .iaload, 1), (47, .istore_n 3, 1), (48, .aload_n 0, 1), (49, .getfield 40, 3), (52, .iload_n 2, 1), (53, .iload_n 1, 1), (54, .iastore, 1), (55, .iload_n 1, 1), (56, .aload_n 0, 1), (57, .getfield 37, 3), (60, .iload_n 2, 1), (61, .iaload, 1), (62, .bipush (-4), 2), (64, .if_icmp .ne 15, 3), (67, .aload_n 0, 1), (68, .getfield 19, 3), (71, .iload_n 2, 1), (72, .iaload, 1), (73, .invokestatic 127, 3), (76, .goto 13, 3), (79, .aload_n 0, 1), (80, .aload_n 0, 1), (81, .getfield 37, 3), (84, .iload_n 2, 1), (85, .iaload, 1), (86, .invokevirtual 133, 3), (89, .iadd, 1), (90, .istore_n 1, 1), (91, .iconst 1, 1), (92, .istore 4, 2), (94, .iload 4, 2), (96, .iload_n 3, 1), (97, .if_icmp .ge 35, 3), (100, .aload_n 0, 1), (101, .getfield 40, 3), (104, .iload_n 2, 1), (105, .iload 4, 2), (107, .iadd, 1), (108, .bipush (-4), 2), (110, .iastore, 1), (111, .aload_n 0, 1), (112, .getfield 37, 3), (115, .iload_n 2, 1), (116, .iload 4, 2), (118, .iadd, 1), (119, .aload_n 0, 1), (120, .getfield 37, 3), (123, .iload_n 2, 1), (124, .iaload, 1), (125, .iastore, 1), (126, .iinc 4 1, 3), (129, .goto (-35), 3), (132, .iload_n 2, 1), (133, .iload_n 3, 1), (134, .iadd, 1), (135, .istore_n 2, 1), (136, .goto (-126), 3), (139, .aload_n 0, 1), (140, .getfield 40, 3), (143, .aload_n 0, 1), (144, .getfield 103, 3), (147, .iload_n 1, 1), (148, .iastore, 1), (149, .return_, 1)]
theorem DX9_cover : xdt cX9_cover tX9_cover = true := by decide +kernel
abbrev mX9_cover : XM := (cX9_cover, yX9_cover, 5, none, 274)
theorem FX9_cover : xMF mX9_cover 0 := ⟨by decide +kernel, xTb_mem 921 (by decide +kernel) rfl, xTb_mem 70 (by decide +kernel) rfl, by decide +kernel, by decide +kernel, by decide +kernel, by decide⟩
theorem VX9_cover : xMV mX9_cover := ⟨xTb_mem 920 (by decide +kernel) rfl, xTb_mem 26 (by decide +kernel) rfl⟩
def tX9_gainOf : List (Nat × Instr × Nat) := [(0, .aload_n 0, 1), (1, .getfield 40, 3), (4, .aload_n 0, 1), (5, .getfield 103, 3), (8, .iaload, 1), (9, .istore 4, 2), (11, .aload_n 0, 1), (12, .bipush 8, 2), (14, .iload_n 1, 1), (15, .iload_n 2, 1), (16, .iload_n 3, 1), (17, .invokevirtual 123, 3), (20, .aload_n 0, 1), (21, .iconst 1, 1), (22, .invokevirtual 136, 3), (25, .iconst 1, 1), (26, .iadd, 1), (27, .iconst 2, 1), (28, .iload_n 2, 1), (29, .imul, 1), (30, .iadd, 1), (31, .istore 5, 2), (33, .iload 4, 2), (35, .iload 5, 2), (37, .isub, 1), (38, .ireturn, 1)]
theorem DX9_gainOf : xdt cX9_gainOf tX9_gainOf = true := by decide +kernel
abbrev mX9_gainOf : XM := (cX9_gainOf, yX9_gainOf, 6, (some .int), 274)
theorem FX9_gainOf : xMF mX9_gainOf 3 := ⟨by decide +kernel, xTb_mem 1119 (by decide +kernel) rfl, xTb_mem 70 (by decide +kernel) rfl, by decide +kernel, by decide +kernel, by decide +kernel, by decide⟩
theorem VX9_gainOf : xMV mX9_gainOf := ⟨xTb_mem 1118 (by decide +kernel) rfl, xTb_mem 40 (by decide +kernel) rfl⟩
def tX9_note : List (Nat × Instr × Nat) := [(0, .aload_n 0, 1), (1, .getfield 106, 3), (4, .bipush 6, 2), (6, .if_icmp .ne 43, 3), (9, .iconst 0, 1), (10, .istore_n 1, 1), (11, .iload_n 1, 1), (12, .sipush 415, 3), (15, .if_icmp .ge 24, 3), (18, .aload_n 0, 1), (19, .getfield 31, 3), (22, .iload_n 1, 1), (23, .aload_n 0, 1), (24, .getfield 31, 3), (27, .bipush 83, 2), (29, .iload_n 1, 1), (30, .iadd, 1), (31, .iaload, 1), (32, .iastore, 1), (33, .iinc 1 1, 3), (36, .goto (-25), 3), (39, .aload_n 0, 1), (40, .dup, 1), (41, .getfield 106, 3), (44, .iconst 1, 1), (45, .isub, 1), (46, .putfield 106, 3), (49, .iconst 0, 1), (50, .istore_n 1, 1), (51, .iload_n 1, 1), (52, .bipush 83, 2), (54, .if_icmp .ge 29, 3), (57, .aload_n 0, 1), (58, .getfield 31, 3), (61, .bipush 83, 2), (63, .aload_n 0, 1), (64, .getfield 106, 3), (67, .imul, 1), (68, .iload_n 1, 1), (69, .iadd, 1), (70, .aload_n 0, 1), (71, .getfield 28, 3), (74, .iload_n 1, 1), (75, .iaload, 1), (76, .iastore, 1), (77, .iinc 1 1, 3), (80, .goto (-29), 3), (83, .aload_n 0, 1), (84, .dup, 1), (85, .getfield 106, 3), (88, .iconst 1, 1), (89, .iadd, 1), (90, .putfield 106, 3), (93, .aload_n 0, 1), (94, .iconst 0, 1), (95, .putfield 109, 3), (98, .return_, 1)]
theorem DX9_note : xdt cX9_note tX9_note = true := by decide +kernel
abbrev mX9_note : XM := (cX9_note, yX9_note, 2, none, 274)
theorem FX9_note : xMF mX9_note 0 := ⟨by decide +kernel, xTb_mem 1103 (by decide +kernel) rfl, xTb_mem 70 (by decide +kernel) rfl, by decide +kernel, by decide +kernel, by decide +kernel, by decide⟩
theorem VX9_note : xMV mX9_note := ⟨xTb_mem 1102 (by decide +kernel) rfl, xTb_mem 38 (by decide +kernel) rfl⟩
def tX9_refusal : List (Nat × Instr × Nat) := [(0, .aload_n 0, 1), (1, .iload_n 1, 1), (2, .invokevirtual 140, 3), (5, .ifCond .eq 32, 3), (8, .iload_n 2, 1), (9, .i2l, 1), (10, .ldc2_w 143, 3), (13, .ldc2_w 145, 3), (16, .invokestatic 71, 3), (19, .ifCond .eq 18, 3), (22, .iload_n 3, 1), (23, .i2l, 1), (24, .ldc2_w 147, 3), (27, .iload_n 2, 1), (28, .iconst 1, 1), (29, .isub, 1), (30, .i2l, 1), (31, .invokestatic 71, 3), (34, .ifCond .ne 5, 3), (37, .iconst (-1), 1), (38, .ireturn, 1), (39, .aload_n 0, 1), (40, .iload_n 1, 1), (41, .iload_n 2, 1), (42, .invokevirtual 119, 3), (45, .ifCond .eq 13, 3), (48, .aload_n 0, 1), (49, .iload_n 1, 1), (50, .iload_n 2, 1), (51, .iload_n 3, 1), (52, .invokevirtual 149, 3), (55, .ifCond .eq 6, 3), (58, .bipush (-2), 2), (60, .ireturn, 1), (61, .aload_n 0, 1), (62, .getfield 28, 3), (65, .bipush 82, 2), (67, .iaload, 1), (68, .bipush 8, 2), (70, .if_icmp .ne 8, 3), (73, .bipush (-3), 2), (75, .goto 4, 3), (78, .iconst 0, 1), (79, .ireturn, 1)]
theorem DX9_refusal : xdt cX9_refusal tX9_refusal = true := by decide +kernel
abbrev mX9_refusal : XM := (cX9_refusal, yX9_refusal, 4, (some .int), 274)
theorem FX9_refusal : xMF mX9_refusal 3 := ⟨by decide +kernel, xTb_mem 1084 (by decide +kernel) rfl, xTb_mem 70 (by decide +kernel) rfl, by decide +kernel, by decide +kernel, by decide +kernel, by decide⟩
theorem VX9_refusal : xMV mX9_refusal := ⟨xTb_mem 1083 (by decide +kernel) rfl, xTb_mem 34 (by decide +kernel) rfl⟩
def tX9_add : List (Nat × Instr × Nat) := [(0, .aload_n 0, 1), (1, .iload_n 1, 1), (2, .iload_n 2, 1), (3, .iload_n 3, 1), (4, .invokevirtual 153, 3), (7, .istore 4, 2), (9, .iload 4, 2), (11, .ifCond .eq 6, 3), (14, .iload 4, 2), (16, .ireturn, 1), (17, .aload_n 0, 1), (18, .invokevirtual 157, 3), (21, .aload_n 0, 1), (22, .aload_n 0, 1), (23, .getfield 28, 3), (26, .bipush 82, 2), (28, .iaload, 1), (29, .iload_n 1, 1), (30, .iload_n 2, 1), (31, .iload_n 3, 1), (32, .invokevirtual 123, 3), (35, .aload_n 0, 1), (36, .getfield 28, 3), (39, .bipush 82, 2), (41, .dup2, 1), (42, .iaload, 1), (43, .iconst 1, 1), (44, .iadd, 1), (45, .iastore, 1), (46, .aload_n 0, 1), (47, .invokevirtual 113, 3), (50, .aload_n 0, 1), (51, .getfield 28, 3), (54, .bipush 82, 2), (56, .iaload, 1), (57, .iconst 1, 1), (58, .isub, 1), (59, .ireturn, 1)]
theorem DX9_add : xdt cX9_add tX9_add = true := by decide +kernel
abbrev mX9_add : XM := (cX9_add, yX9_add, 5, (some .int), 274)
theorem FX9_add : xMF mX9_add 3 := ⟨by decide +kernel, xTb_mem 1080 (by decide +kernel) rfl, xTb_mem 70 (by decide +kernel) rfl, by decide +kernel, by decide +kernel, by decide +kernel, by decide⟩
theorem VX9_add : xMV mX9_add := ⟨xTb_mem 1078 (by decide +kernel) rfl, xTb_mem 1079 (by decide +kernel) rfl⟩
def tX9_drop : List (Nat × Instr × Nat) := [(0, .aload_n 0, 1), (1, .iload_n 1, 1), (2, .invokevirtual 160, 3), (5, .ifCond .ne 5, 3), (8, .iconst (-1), 1), (9, .ireturn, 1), (10, .aload_n 0, 1), (11, .invokevirtual 157, 3), (14, .aload_n 0, 1), (15, .getfield 28, 3), (18, .bipush 82, 2), (20, .dup2, 1), (21, .iaload, 1), (22, .iconst 1, 1), (23, .isub, 1), (24, .iastore, 1), (25, .bipush 10, 2), (27, .iload_n 1, 1), (28, .imul, 1), (29, .istore_n 2, 1), (30, .iload_n 2, 1), (31, .bipush 10, 2), (33, .aload_n 0, 1), (34, .getfield 28, 3), (37, .bipush 82, 2), (39, .iaload, 1), (40, .imul, 1), (41, .if_icmp .ge 24, 3), (44, .aload_n 0, 1), (45, .getfield 28, 3), (48, .iload_n 2, 1), (49, .aload_n 0, 1), (50, .getfield 28, 3), (53, .iload_n 2, 1), (54, .bipush 10, 2), (56, .iadd, 1), (57, .iaload, 1), (58, .iastore, 1), (59, .iinc 2 1, 3), (62, .goto (-32), 3), (65, .aload_n 0, 1), (66, .invokevirtual 113, 3), (69, .aload_n 0, 1), (70, .getfield 28, 3), (73, .bipush 82, 2), (75, .iaload, 1), (76, .ireturn, 1)]
theorem DX9_drop : xdt cX9_drop tX9_drop = true := by decide +kernel
abbrev mX9_drop : XM := (cX9_drop, yX9_drop, 3, (some .int), 274)
theorem FX9_drop : xMF mX9_drop 1 := ⟨by decide +kernel, xTb_mem 1107 (by decide +kernel) rfl, xTb_mem 70 (by decide +kernel) rfl, by decide +kernel, by decide +kernel, by decide +kernel, by decide⟩
theorem VX9_drop : xMV mX9_drop := ⟨xTb_mem 1105 (by decide +kernel) rfl, xTb_mem 1106 (by decide +kernel) rfl⟩
def tX9_gain : List (Nat × Instr × Nat) := [(0, .aload_n 0, 1), (1, .iload_n 1, 1), (2, .iload_n 2, 1), (3, .iload_n 3, 1), (4, .invokevirtual 153, 3), (7, .istore 4, 2), (9, .iload 4, 2), (11, .ifCond .eq 6, 3), (14, .iload 4, 2), (16, .ireturn, 1), (17, .aload_n 0, 1), (18, .iload_n 1, 1), (19, .iload_n 2, 1), (20, .iload_n 3, 1), (21, .invokevirtual 163, 3), (24, .istore 5, 2), (26, .aload_n 0, 1), (27, .invokevirtual 113, 3), (30, .iload 5, 2), (32, .ldc 166, 2), (34, .iadd, 1), (35, .ireturn, 1)]
theorem DX9_gain : xdt cX9_gain tX9_gain = true := by decide +kernel
abbrev mX9_gain : XM := (cX9_gain, yX9_gain, 6, (some .int), 274)
theorem FX9_gain : xMF mX9_gain 3 := ⟨by decide +kernel, xTb_mem 1115 (by decide +kernel) rfl, xTb_mem 70 (by decide +kernel) rfl, by decide +kernel, by decide +kernel, by decide +kernel, by decide⟩
theorem VX9_gain : xMV mX9_gain := ⟨xTb_mem 1113 (by decide +kernel) rfl, xTb_mem 1114 (by decide +kernel) rfl⟩
def tX9_chooses : List (Nat × Instr × Nat) := [(0, .iconst 0, 1), (1, .istore_n 1, 1), (2, .iconst 2, 1), (3, .istore_n 2, 1), (4, .iload_n 2, 1), (5, .iconst 5, 1), (6, .if_icmp .ge 129, 3), (9, .iconst (-1), 1), (10, .istore_n 3, 1), (11, .iload_n 3, 1), (12, .iload_n 2, 1), (13, .if_icmp .ge 116, 3), (16, .iconst 0, 1), (17, .istore 4, 2), (19, .iload 4, 2), (21, .aload_n 0, 1), (22, .getfield 103, 3), (25, .if_icmp .ge 98, 3), (28, .aload_n 0, 1), (29, .iload 4, 2), (31, .iload_n 2, 1), (32, .iload_n 3, 1), (33, .invokevirtual 153, 3), (36, .ifCond .ne 81, 3), (39, .aload_n 0, 1), (40, .iload 4, 2), (42, .iload_n 2, 1), (43, .iload_n 3, 1), (44, .invokevirtual 163, 3), (47, .istore 5, 2), (49, .aload_n 0, 1), (50, .iload 5, 2), (52, .iload_n 1, 1), (53, .if_icmp .le 8, 3), (56, .iload 4, 2), (58, .goto 7, 3), (61, .aload_n 0, 1), (62, .getfield 167, 3), (65, .putfield 167, 3), (68, .aload_n 0, 1), (69, .iload 5, 2), (71, .iload_n 1, 1), (72, .if_icmp .le 7, 3), (75, .iload_n 2, 1), (76, .goto 7, 3), (79, .aload_n 0, 1), (80, .getfield 170, 3), (83, .putfield 170, 3), (86, .aload_n 0, 1), (87, .iload 5, 2), (89, .iload_n 1, 1), (90, .if_icmp .le 7, 3), (93, .iload_n 3, 1), (94, .goto 7, 3), (97, .aload_n 0, 1), (98, .getfield 173, 3), (101, .putfield 173, 3), (104, .iload 5, 2), (106, .iload_n 1, 1), (107, .if_icmp .le 8, 3), (110, .iload 5, 2), (112, .goto 4, 3), (115, .iload_n 1, 1), (116, .istore_n 1, 1), (117, .iinc 4 1, 3), (120, .goto (-101), 3), (123, .iinc 3 1, 3), (126, .goto (-115), 3), (129, .iinc 2 1, 3), (132, .goto (-128), 3), (135, .aload_n 0, 1), (136, .invokevirtual 113, 3), (139, .iload_n 1, 1), (140, .ifCond .le 7, 3), (143, .iconst 1, 1), (144, .goto 4, 3), (147, .iconst 0, 1), (148, .ireturn, 1)]
theorem DX9_chooses : xdt cX9_chooses tX9_chooses = true := by decide +kernel
abbrev mX9_chooses : XM := (cX9_chooses, yX9_chooses, 6, (some .boolean), 274)
theorem FX9_chooses : xMF mX9_chooses 0 := ⟨by decide +kernel, xTb_mem 1129 (by decide +kernel) rfl, xTb_mem 70 (by decide +kernel) rfl, by decide +kernel, by decide +kernel, by decide +kernel, by decide⟩
theorem VX9_chooses : xMV mX9_chooses := ⟨xTb_mem 1128 (by decide +kernel) rfl, xTb_mem 41 (by decide +kernel) rfl⟩
def tX9_choose : List (Nat × Instr × Nat) := [(0, .iload_n 1, 1), (1, .i2l, 1), (2, .lconst 1, 1), (3, .ldc2_w 176, 3), (6, .invokestatic 71, 3), (9, .ifCond .ne 5, 3), (12, .iconst (-1), 1), (13, .ireturn, 1), (14, .iconst 0, 1), (15, .istore_n 2, 1), (16, .iload_n 2, 1), (17, .iload_n 1, 1), (18, .if_icmp .ge 62, 3), (21, .aload_n 0, 1), (22, .invokevirtual 178, 3), (25, .ifCond .eq 55, 3), (28, .iload_n 2, 1), (29, .ifCond .ne 7, 3), (32, .aload_n 0, 1), (33, .invokevirtual 157, 3), (36, .aload_n 0, 1), (37, .aload_n 0, 1), (38, .getfield 28, 3), (41, .bipush 82, 2), (43, .iaload, 1), (44, .aload_n 0, 1), (45, .getfield 167, 3), (48, .aload_n 0, 1), (49, .getfield 170, 3), (52, .aload_n 0, 1), (53, .getfield 173, 3), (56, .invokevirtual 123, 3), (59, .aload_n 0, 1), (60, .getfield 28, 3), (63, .bipush 82, 2), (65, .dup2, 1), (66, .iaload, 1), (67, .iconst 1, 1), (68, .iadd, 1), (69, .iastore, 1), (70, .aload_n 0, 1), (71, .invokevirtual 113, 3), (74, .iinc 2 1, 3), (77, .goto (-61), 3), (80, .iload_n 2, 1), (81, .ifCond .ne 8, 3), (84, .bipush (-2), 2), (86, .goto 4, 3), (89, .iload_n 2, 1), (90, .ireturn, 1)]
theorem DX9_choose : xdt cX9_choose tX9_choose = true := by decide +kernel
abbrev mX9_choose : XM := (cX9_choose, yX9_choose, 3, (some .int), 274)
theorem FX9_choose : xMF mX9_choose 1 := ⟨by decide +kernel, xTb_mem 1124 (by decide +kernel) rfl, xTb_mem 70 (by decide +kernel) rfl, by decide +kernel, by decide +kernel, by decide +kernel, by decide⟩
theorem VX9_choose : xMV mX9_choose := ⟨xTb_mem 1122 (by decide +kernel) rfl, xTb_mem 1123 (by decide +kernel) rfl⟩
def tX9_entry : List (Nat × Instr × Nat) := [(0, .aload_n 0, 1), (1, .iload_n 1, 1), (2, .invokevirtual 160, 3), (5, .ifCond .eq 15, 3), (8, .iload_n 2, 1), (9, .i2l, 1), (10, .lconst 0, 1), (11, .ldc2_w 182, 3), (14, .invokestatic 71, 3), (17, .ifCond .ne 5, 3), (20, .iconst (-1), 1), (21, .ireturn, 1), (22, .iload_n 2, 1), (23, .iconst 2, 1), (24, .if_icmp .ge 15, 3), (27, .aload_n 0, 1), (28, .getfield 28, 3), (31, .bipush 10, 2), (33, .iload_n 1, 1), (34, .imul, 1), (35, .iload_n 2, 1), (36, .iadd, 1), (37, .iaload, 1), (38, .ireturn, 1), (39, .iconst 0, 1), (40, .istore_n 3, 1), (41, .iconst 0, 1), (42, .istore 4, 2), (44, .iconst 0, 1), (45, .istore 5, 2), (47, .iload 5, 2), (49, .aload_n 0, 1), (50, .getfield 103, 3), (53, .if_icmp .ge 60, 3), (56, .iload_n 3, 1), (57, .aload_n 0, 1), (58, .getfield 37, 3), (61, .iload 5, 2), (63, .iaload, 1), (64, .iload_n 1, 1), (65, .if_icmp .ne 19, 3), (68, .aload_n 0, 1), (69, .getfield 40, 3), (72, .iload 5, 2), (74, .iaload, 1), (75, .bipush (-4), 2), (77, .if_icmp .eq 7, 3), (80, .iconst 1, 1), (81, .goto 4, 3), (84, .iconst 0, 1), (85, .iadd, 1), (86, .istore_n 3, 1), (87, .iload 4, 2), (89, .aload_n 0, 1), (90, .iload 5, 2), (92, .iload_n 1, 1), (93, .invokevirtual 130, 3), (96, .ifCond .eq 7, 3), (99, .iconst 1, 1), (100, .goto 4, 3), (103, .iconst 0, 1), (104, .iadd, 1), (105, .istore 4, 2), (107, .iinc 5 1, 3), (110, .goto (-63), 3), (113, .iload_n 2, 1), (114, .iconst 2, 1), (115, .if_icmp .ne 7, 3), (118, .iload_n 3, 1), (119, .goto 5, 3), (122, .iload 4, 2), (124, .ireturn, 1)]
theorem DX9_entry : xdt cX9_entry tX9_entry = true := by decide +kernel
abbrev mX9_entry : XM := (cX9_entry, yX9_entry, 6, (some .int), 274)
theorem FX9_entry : xMF mX9_entry 2 := ⟨by decide +kernel, xTb_mem 1133 (by decide +kernel) rfl, xTb_mem 70 (by decide +kernel) rfl, by decide +kernel, by decide +kernel, by decide +kernel, by decide⟩
theorem VX9_entry : xMV mX9_entry := ⟨xTb_mem 1131 (by decide +kernel) rfl, xTb_mem 1132 (by decide +kernel) rfl⟩
def tX9_part : List (Nat × Instr × Nat) := [(0, .aload_n 0, 1), (1, .iload_n 1, 1), (2, .invokevirtual 160, 3), (5, .ifCond .eq 17, 3), (8, .iload_n 2, 1), (9, .ifCond .lt 13, 3), (12, .iload_n 3, 1), (13, .i2l, 1), (14, .lconst 0, 1), (15, .lconst 1, 1), (16, .invokestatic 71, 3), (19, .ifCond .ne 5, 3), (22, .iconst (-1), 1), (23, .ireturn, 1), (24, .iload_n 2, 1), (25, .aload_n 0, 1), (26, .getfield 28, 3), (29, .bipush 10, 2), (31, .iload_n 1, 1), (32, .imul, 1), (33, .iaload, 1), (34, .if_icmp .lt 8, 3), (37, .bipush (-4), 2), (39, .goto 25, 3), (42, .aload_n 0, 1), (43, .getfield 28, 3), (46, .bipush 10, 2), (48, .iload_n 1, 1), (49, .imul, 1), (50, .iload_n 3, 1), (51, .ifCond .ne 7, 3), (54, .iconst 2, 1), (55, .goto 5, 3), (58, .bipush 6, 2), (60, .iadd, 1), (61, .iload_n 2, 1), (62, .iadd, 1), (63, .iaload, 1), (64, .ireturn, 1)]
theorem DX9_part : xdt cX9_part tX9_part = true := by decide +kernel
abbrev mX9_part : XM := (cX9_part, yX9_part, 4, (some .int), 274)
theorem FX9_part : xMF mX9_part 3 := ⟨by decide +kernel, xTb_mem 1138 (by decide +kernel) rfl, xTb_mem 70 (by decide +kernel) rfl, by decide +kernel, by decide +kernel, by decide +kernel, by decide⟩
theorem VX9_part : xMV mX9_part := ⟨xTb_mem 1136 (by decide +kernel) rfl, xTb_mem 1137 (by decide +kernel) rfl⟩
def tX9_wide : List (Nat × Instr × Nat) := [(0, .iload_n 1, 1), (1, .iconst 4, 1), (2, .if_icmp .eq 17, 3), (5, .iload_n 1, 1), (6, .bipush 8, 2), (8, .if_icmp .eq 11, 3), (11, .iload_n 1, 1), (12, .bipush 16, 2), (14, .if_icmp .eq 5, 3), (17, .iconst (-1), 1), (18, .ireturn, 1), (19, .aload_n 0, 1), (20, .getfield 28, 3), (23, .bipush 80, 2), (25, .iaload, 1), (26, .istore_n 2, 1), (27, .iload_n 2, 1), (28, .iload_n 1, 1), (29, .if_icmp .ne 6, 3), (32, .bipush (-2), 2), (34, .ireturn, 1), (35, .aload_n 0, 1), (36, .invokevirtual 157, 3), (39, .aload_n 0, 1), (40, .getfield 28, 3), (43, .bipush 80, 2), (45, .iload_n 1, 1), (46, .iastore, 1), (47, .aload_n 0, 1), (48, .invokevirtual 113, 3), (51, .iload_n 2, 1), (52, .ireturn, 1)]
theorem DX9_wide : xdt cX9_wide tX9_wide = true := by decide +kernel
abbrev mX9_wide : XM := (cX9_wide, yX9_wide, 3, (some .int), 274)
theorem FX9_wide : xMF mX9_wide 1 := ⟨by decide +kernel, xTb_mem 1142 (by decide +kernel) rfl, xTb_mem 70 (by decide +kernel) rfl, by decide +kernel, by decide +kernel, by decide +kernel, by decide⟩
theorem VX9_wide : xMV mX9_wide := ⟨xTb_mem 1140 (by decide +kernel) rfl, xTb_mem 1141 (by decide +kernel) rfl⟩
def tX9_hold : List (Nat × Instr × Nat) := [(0, .iload_n 1, 1), (1, .i2l, 1), (2, .lconst 1, 1), (3, .ldc2_w 145, 3), (6, .invokestatic 71, 3), (9, .ifCond .ne 5, 3), (12, .iconst (-1), 1), (13, .ireturn, 1), (14, .aload_n 0, 1), (15, .getfield 28, 3), (18, .bipush 81, 2), (20, .iaload, 1), (21, .istore_n 2, 1), (22, .iload_n 2, 1), (23, .iload_n 1, 1), (24, .if_icmp .ne 6, 3), (27, .bipush (-2), 2), (29, .ireturn, 1), (30, .aload_n 0, 1), (31, .invokevirtual 157, 3), (34, .aload_n 0, 1), (35, .getfield 28, 3), (38, .bipush 81, 2), (40, .iload_n 1, 1), (41, .iastore, 1), (42, .iload_n 2, 1), (43, .ireturn, 1)]
theorem DX9_hold : xdt cX9_hold tX9_hold = true := by decide +kernel
abbrev mX9_hold : XM := (cX9_hold, yX9_hold, 3, (some .int), 274)
theorem FX9_hold : xMF mX9_hold 1 := ⟨by decide +kernel, xTb_mem 1146 (by decide +kernel) rfl, xTb_mem 70 (by decide +kernel) rfl, by decide +kernel, by decide +kernel, by decide +kernel, by decide⟩
theorem VX9_hold : xMV mX9_hold := ⟨xTb_mem 1144 (by decide +kernel) rfl, xTb_mem 1145 (by decide +kernel) rfl⟩
def tX9_undo : List (Nat × Instr × Nat) := [(0, .aload_n 0, 1), (1, .getfield 106, 3), (4, .ifCond .ne 6, 3), (7, .bipush (-2), 2), (9, .ireturn, 1), (10, .aload_n 0, 1), (11, .dup, 1), (12, .getfield 106, 3), (15, .iconst 1, 1), (16, .isub, 1), (17, .putfield 106, 3), (20, .iconst 0, 1), (21, .istore_n 1, 1), (22, .iload_n 1, 1), (23, .bipush 83, 2), (25, .if_icmp .ge 29, 3), (28, .aload_n 0, 1), (29, .getfield 28, 3), (32, .iload_n 1, 1), (33, .aload_n 0, 1), (34, .getfield 31, 3), (37, .bipush 83, 2), (39, .aload_n 0, 1), (40, .getfield 106, 3), (43, .imul, 1), (44, .iload_n 1, 1), (45, .iadd, 1), (46, .iaload, 1), (47, .iastore, 1), (48, .iinc 1 1, 3), (51, .goto (-29), 3), (54, .aload_n 0, 1), (55, .iconst 0, 1), (56, .putfield 109, 3), (59, .aload_n 0, 1), (60, .invokevirtual 113, 3), (63, .aload_n 0, 1), (64, .getfield 106, 3), (67, .ireturn, 1)]
theorem DX9_undo : xdt cX9_undo tX9_undo = true := by decide +kernel
abbrev mX9_undo : XM := (cX9_undo, yX9_undo, 2, (some .int), 274)
theorem FX9_undo : xMF mX9_undo 0 := ⟨by decide +kernel, xTb_mem 1150 (by decide +kernel) rfl, xTb_mem 70 (by decide +kernel) rfl, by decide +kernel, by decide +kernel, by decide +kernel, by decide⟩
theorem VX9_undo : xMV mX9_undo := ⟨xTb_mem 1148 (by decide +kernel) rfl, xTb_mem 1149 (by decide +kernel) rfl⟩
def tX9_code : List (Nat × Instr × Nat) := [(0, .aload_n 0, 1), (1, .iload_n 1, 1), (2, .invokevirtual 140, 3), (5, .ifCond .eq 15, 3), (8, .iload_n 2, 1), (9, .i2l, 1), (10, .lconst 0, 1), (11, .ldc2_w 145, 3), (14, .invokestatic 71, 3), (17, .ifCond .ne 5, 3), (20, .iconst (-1), 1), (21, .ireturn, 1), (22, .iload_n 2, 1), (23, .tableswitch 57 0 3 #[29, 36, 43, 50], 29), (52, .aload_n 0, 1), (53, .getfield 19, 3), (56, .iload_n 1, 1), (57, .iaload, 1), (58, .ireturn, 1), (59, .aload_n 0, 1), (60, .getfield 22, 3), (63, .iload_n 1, 1), (64, .iaload, 1), (65, .ireturn, 1), (66, .aload_n 0, 1), (67, .getfield 25, 3), (70, .iload_n 1, 1), (71, .iaload, 1), (72, .ireturn, 1), (73, .aload_n 0, 1), (74, .getfield 37, 3), (77, .iload_n 1, 1), (78, .iaload, 1), (79, .ireturn, 1), (80, .aload_n 0, 1), (81, .getfield 37, 3), (84, .iload_n 1, 1), (85, .iaload, 1), (86, .bipush (-4), 2), (88, .if_icmp .ne 8, 3), (91, .bipush (-4), 2), (93, .goto 10, 3), (96, .iload_n 1, 1), (97, .aload_n 0, 1), (98, .iload_n 1, 1), (99, .invokevirtual 184, 3), (102, .isub, 1), (103, .ireturn, 1)]
theorem DX9_code : xdt cX9_code tX9_code = true := by decide +kernel
abbrev mX9_code : XM := (cX9_code, yX9_code, 3, (some .int), 274)
theorem FX9_code : xMF mX9_code 2 := ⟨by decide +kernel, xTb_mem 1154 (by decide +kernel) rfl, xTb_mem 70 (by decide +kernel) rfl, by decide +kernel, by decide +kernel, by decide +kernel, by decide⟩
theorem VX9_code : xMV mX9_code := ⟨xTb_mem 1152 (by decide +kernel) rfl, xTb_mem 1153 (by decide +kernel) rfl⟩
def tX9_headOf : List (Nat × Instr × Nat) := [(0, .iload_n 1, 1), (1, .istore_n 2, 1), (2, .aload_n 0, 1), (3, .getfield 40, 3), (6, .iload_n 2, 1), (7, .iaload, 1), (8, .bipush (-4), 2), (10, .if_icmp .ne 9, 3), (13, .iinc 2 (-1), 3), (16, .goto (-14), 3), (19, .iload_n 2, 1), (20, .ireturn, 1)]
theorem DX9_headOf : xdt cX9_headOf tX9_headOf = true := by decide +kernel
abbrev mX9_headOf : XM := (cX9_headOf, yX9_headOf, 3, (some .int), 274)
theorem FX9_headOf : xMF mX9_headOf 1 := ⟨by decide +kernel, xTb_mem 1158 (by decide +kernel) rfl, xTb_mem 70 (by decide +kernel) rfl, by decide +kernel, by decide +kernel, by decide +kernel, by decide⟩
theorem VX9_headOf : xMV mX9_headOf := ⟨xTb_mem 1157 (by decide +kernel) rfl, xTb_mem 42 (by decide +kernel) rfl⟩
def tX9_references : List (Nat × Instr × Nat) := [(0, .iconst 0, 1), (1, .istore_n 3, 1), (2, .iload_n 1, 1), (3, .istore 4, 2), (5, .iload 4, 2), (7, .iload_n 2, 1), (8, .if_icmp .ge 41, 3), (11, .iload_n 3, 1), (12, .aload_n 0, 1), (13, .getfield 37, 3), (16, .iload 4, 2), (18, .iaload, 1), (19, .bipush (-4), 2), (21, .if_icmp .eq 19, 3), (24, .aload_n 0, 1), (25, .getfield 40, 3), (28, .iload 4, 2), (30, .iaload, 1), (31, .bipush (-4), 2), (33, .if_icmp .eq 7, 3), (36, .iconst 1, 1), (37, .goto 4, 3), (40, .iconst 0, 1), (41, .iadd, 1), (42, .istore_n 3, 1), (43, .iinc 4 1, 3), (46, .goto (-41), 3), (49, .iload_n 3, 1), (50, .ireturn, 1)]
theorem DX9_references : xdt cX9_references tX9_references = true := by decide +kernel
abbrev mX9_references : XM := (cX9_references, yX9_references, 5, (some .int), 274)
theorem FX9_references : xMF mX9_references 2 := ⟨by decide +kernel, xTb_mem 1175 (by decide +kernel) rfl, xTb_mem 70 (by decide +kernel) rfl, by decide +kernel, by decide +kernel, by decide +kernel, by decide⟩
theorem VX9_references : xMV mX9_references := ⟨xTb_mem 1174 (by decide +kernel) rfl, xTb_mem 45 (by decide +kernel) rfl⟩
def tX9_size : List (Nat × Instr × Nat) := [(0, .iload_n 1, 1), (1, .i2l, 1), (2, .lconst 0, 1), (3, .ldc2_w 187, 3), (6, .invokestatic 71, 3), (9, .ifCond .ne 5, 3), (12, .iconst (-1), 1), (13, .ireturn, 1), (14, .iconst 0, 1), (15, .istore_n 2, 1), (16, .iconst 0, 1), (17, .istore_n 3, 1), (18, .iload_n 3, 1), (19, .aload_n 0, 1), (20, .getfield 103, 3), (23, .if_icmp .ge 21, 3), (26, .iload_n 2, 1), (27, .aload_n 0, 1), (28, .getfield 19, 3), (31, .iload_n 3, 1), (32, .iaload, 1), (33, .invokestatic 127, 3), (36, .iadd, 1), (37, .istore_n 2, 1), (38, .iinc 3 1, 3), (41, .goto (-23), 3), (44, .iload_n 1, 1), (45, .tableswitch 81 0 4 #[35, 45, 50, 57, 79], 35), (80, .aload_n 0, 1), (81, .getfield 40, 3), (84, .aload_n 0, 1), (85, .getfield 103, 3), (88, .iaload, 1), (89, .ireturn, 1), (90, .aload_n 0, 1), (91, .invokevirtual 189, 3), (94, .ireturn, 1), (95, .iconst 3, 1), (96, .aload_n 0, 1), (97, .invokevirtual 192, 3), (100, .imul, 1), (101, .ireturn, 1), (102, .aload_n 0, 1), (103, .getfield 40, 3), (106, .aload_n 0, 1), (107, .getfield 103, 3), (110, .iaload, 1), (111, .aload_n 0, 1), (112, .invokevirtual 189, 3), (115, .iadd, 1), (116, .iconst 3, 1), (117, .aload_n 0, 1), (118, .invokevirtual 192, 3), (121, .imul, 1), (122, .iadd, 1), (123, .ireturn, 1), (124, .iload_n 2, 1), (125, .ireturn, 1), (126, .aload_n 0, 1), (127, .iconst 0, 1), (128, .aload_n 0, 1), (129, .getfield 103, 3), (132, .invokevirtual 195, 3), (135, .ireturn, 1)]
theorem DX9_size : xdt cX9_size tX9_size = true := by decide +kernel
abbrev mX9_size : XM := (cX9_size, yX9_size, 4, (some .int), 274)
theorem FX9_size : xMF mX9_size 1 := ⟨by decide +kernel, xTb_mem 1162 (by decide +kernel) rfl, xTb_mem 70 (by decide +kernel) rfl, by decide +kernel, by decide +kernel, by decide +kernel, by decide⟩
theorem VX9_size : xMV mX9_size := ⟨xTb_mem 1160 (by decide +kernel) rfl, xTb_mem 1161 (by decide +kernel) rfl⟩
def tX9_kindOf : List (Nat × Instr × Nat) := [(0, .iload_n 0, 1), (1, .tableswitch 146 97 122 #[119, 146, 146, 146, 146, 146, 146, 146, 146, 134, 140, 127, 121, 146, 146, 129, 143, 146, 125, 146, 146, 146, 131, 123, 146, 137], 119), (120, .iconst 0, 1), (121, .ireturn, 1), (122, .iconst 1, 1), (123, .ireturn, 1), (124, .iconst 2, 1), (125, .ireturn, 1), (126, .iconst 3, 1), (127, .ireturn, 1), (128, .iconst 4, 1), (129, .ireturn, 1), (130, .iconst 5, 1), (131, .ireturn, 1), (132, .bipush 6, 2), (134, .ireturn, 1), (135, .bipush 7, 2), (137, .ireturn, 1), (138, .bipush 8, 2), (140, .ireturn, 1), (141, .bipush 9, 2), (143, .ireturn, 1), (144, .bipush 10, 2), (146, .ireturn, 1), (147, .bipush 11, 2), (149, .ireturn, 1)]
theorem DX9_kindOf : xdt cX9_kindOf tX9_kindOf = true := by decide +kernel
abbrev mX9_kindOf : XM := (cX9_kindOf, yX9_kindOf, 1, (some .int), 274)
theorem FX9_kindOf : xMF mX9_kindOf 1 := ⟨by decide +kernel, xTb_mem 1186 (by decide +kernel) rfl, xTb_mem 70 (by decide +kernel) rfl, by decide +kernel, by decide +kernel, by decide +kernel, by decide⟩
theorem VX9_kindOf : xMS mX9_kindOf := xTb_mem 1185 (by decide +kernel) rfl
def tX9_nibbleOf : List (Nat × Instr × Nat) := [(0, .aload_n 0, 1), (1, .getfield 37, 3), (4, .iload_n 1, 1), (5, .iaload, 1), (6, .bipush (-4), 2), (8, .if_icmp .eq 50, 3), (11, .iload_n 2, 1), (12, .ifCond .ne 8, 3), (15, .bipush 15, 2), (17, .goto 40, 3), (20, .iload_n 2, 1), (21, .iconst 1, 1), (22, .if_icmp .ne 12, 3), (25, .aload_n 0, 1), (26, .getfield 37, 3), (29, .iload_n 1, 1), (30, .iaload, 1), (31, .goto 26, 3), (34, .aload_n 0, 1), (35, .getfield 22, 3), (38, .iload_n 1, 1), (39, .aload_n 0, 1), (40, .getfield 28, 3), (43, .bipush 10, 2), (45, .aload_n 0, 1), (46, .getfield 37, 3), (49, .iload_n 1, 1), (50, .iaload, 1), (51, .imul, 1), (52, .iconst 1, 1), (53, .iadd, 1), (54, .iaload, 1), (55, .iadd, 1), (56, .iaload, 1), (57, .ireturn, 1), (58, .iload_n 2, 1), (59, .ifCond .ne 13, 3), (62, .aload_n 0, 1), (63, .getfield 19, 3), (66, .iload_n 1, 1), (67, .iaload, 1), (68, .invokestatic 199, 3), (71, .ireturn, 1), (72, .aload_n 0, 1), (73, .getfield 19, 3), (76, .iload_n 1, 1), (77, .iaload, 1), (78, .invokestatic 86, 3), (81, .ifCond .eq 12, 3), (84, .aload_n 0, 1), (85, .getfield 22, 3), (88, .iload_n 1, 1), (89, .iaload, 1), (90, .goto 24, 3), (93, .aload_n 0, 1), (94, .getfield 40, 3), (97, .aload_n 0, 1), (98, .getfield 22, 3), (101, .iload_n 1, 1), (102, .iaload, 1), (103, .iaload, 1), (104, .bipush 12, 2), (106, .iconst 4, 1), (107, .iload_n 2, 1), (108, .imul, 1), (109, .isub, 1), (110, .ishr, 1), (111, .bipush 15, 2), (113, .iand, 1), (114, .ireturn, 1)]
theorem DX9_nibbleOf : xdt cX9_nibbleOf tX9_nibbleOf = true := by decide +kernel
abbrev mX9_nibbleOf : XM := (cX9_nibbleOf, yX9_nibbleOf, 3, (some .int), 274)
theorem FX9_nibbleOf : xMF mX9_nibbleOf 2 := ⟨by decide +kernel, xTb_mem 1183 (by decide +kernel) rfl, xTb_mem 70 (by decide +kernel) rfl, by decide +kernel, by decide +kernel, by decide +kernel, by decide⟩
theorem VX9_nibbleOf : xMV mX9_nibbleOf := ⟨xTb_mem 1182 (by decide +kernel) rfl, xTb_mem 46 (by decide +kernel) rfl⟩
def tX9_nibble : List (Nat × Instr × Nat) := [(0, .iload_n 1, 1), (1, .ifCond .ge 5, 3), (4, .iconst (-1), 1), (5, .ireturn, 1), (6, .iload_n 1, 1), (7, .aload_n 0, 1), (8, .getfield 40, 3), (11, .aload_n 0, 1), (12, .getfield 103, 3), (15, .iaload, 1), (16, .if_icmp .lt 6, 3), (19, .bipush (-4), 2), (21, .ireturn, 1), (22, .aload_n 0, 1), (23, .getfield 103, 3), (26, .iconst 1, 1), (27, .isub, 1), (28, .istore_n 2, 1), (29, .aload_n 0, 1), (30, .getfield 40, 3), (33, .iload_n 2, 1), (34, .iaload, 1), (35, .bipush (-4), 2), (37, .if_icmp .eq 13, 3), (40, .aload_n 0, 1), (41, .getfield 40, 3), (44, .iload_n 2, 1), (45, .iaload, 1), (46, .iload_n 1, 1), (47, .if_icmp .le 9, 3), (50, .iinc 2 (-1), 3), (53, .goto (-24), 3), (56, .aload_n 0, 1), (57, .iload_n 2, 1), (58, .iload_n 1, 1), (59, .aload_n 0, 1), (60, .getfield 40, 3), (63, .iload_n 2, 1), (64, .iaload, 1), (65, .isub, 1), (66, .invokevirtual 202, 3), (69, .ireturn, 1)]
theorem DX9_nibble : xdt cX9_nibble tX9_nibble = true := by decide +kernel
abbrev mX9_nibble : XM := (cX9_nibble, yX9_nibble, 3, (some .int), 274)
theorem FX9_nibble : xMF mX9_nibble 1 := ⟨by decide +kernel, xTb_mem 1179 (by decide +kernel) rfl, xTb_mem 70 (by decide +kernel) rfl, by decide +kernel, by decide +kernel, by decide +kernel, by decide⟩
theorem VX9_nibble : xMV mX9_nibble := ⟨xTb_mem 1177 (by decide +kernel) rfl, xTb_mem 1178 (by decide +kernel) rfl⟩
def tX9_address : List (Nat × Instr × Nat) := [(0, .aload_n 0, 1), (1, .iload_n 1, 1), (2, .invokevirtual 140, 3), (5, .ifCond .eq 12, 3), (8, .aload_n 0, 1), (9, .getfield 40, 3), (12, .iload_n 1, 1), (13, .iaload, 1), (14, .goto 4, 3), (17, .iconst (-1), 1), (18, .ireturn, 1)]
theorem DX9_address : xdt cX9_address tX9_address = true := by decide +kernel
abbrev mX9_address : XM := (cX9_address, yX9_address, 2, (some .int), 274)
theorem FX9_address : xMF mX9_address 1 := ⟨by decide +kernel, xTb_mem 1190 (by decide +kernel) rfl, xTb_mem 70 (by decide +kernel) rfl, by decide +kernel, by decide +kernel, by decide +kernel, by decide⟩
theorem VX9_address : xMV mX9_address := ⟨xTb_mem 1188 (by decide +kernel) rfl, xTb_mem 1189 (by decide +kernel) rfl⟩
def tX9_at : List (Nat × Instr × Nat) := [(0, .iload_n 1, 1), (1, .ifCond .ge 5, 3), (4, .iconst (-1), 1), (5, .ireturn, 1), (6, .iconst 0, 1), (7, .istore_n 2, 1), (8, .iload_n 2, 1), (9, .aload_n 0, 1), (10, .getfield 103, 3), (13, .if_icmp .ge 21, 3), (16, .aload_n 0, 1), (17, .getfield 40, 3), (20, .iload_n 2, 1), (21, .iaload, 1), (22, .iload_n 1, 1), (23, .if_icmp .ne 5, 3), (26, .iload_n 2, 1), (27, .ireturn, 1), (28, .iinc 2 1, 3), (31, .goto (-23), 3), (34, .bipush (-4), 2), (36, .ireturn, 1)]
theorem DX9_at : xdt cX9_at tX9_at = true := by decide +kernel
abbrev mX9_at : XM := (cX9_at, yX9_at, 3, (some .int), 274)
theorem FX9_at : xMF mX9_at 1 := ⟨by decide +kernel, xTb_mem 1194 (by decide +kernel) rfl, xTb_mem 70 (by decide +kernel) rfl, by decide +kernel, by decide +kernel, by decide +kernel, by decide⟩
theorem VX9_at : xMV mX9_at := ⟨xTb_mem 1192 (by decide +kernel) rfl, xTb_mem 1193 (by decide +kernel) rfl⟩
def tX9_lineEnd : List (Nat × Instr × Nat) := [(0, .iload_n 1, 1), (1, .iconst 1, 1), (2, .iadd, 1), (3, .aload_n 0, 1), (4, .getfield 28, 3), (7, .bipush 80, 2), (9, .iaload, 1), (10, .imul, 1), (11, .istore_n 2, 1), (12, .iload_n 2, 1), (13, .aload_n 0, 1), (14, .getfield 103, 3), (17, .if_icmp .ge 7, 3), (20, .iload_n 2, 1), (21, .goto 7, 3), (24, .aload_n 0, 1), (25, .getfield 103, 3), (28, .ireturn, 1)]
theorem DX9_lineEnd : xdt cX9_lineEnd tX9_lineEnd = true := by decide +kernel
abbrev mX9_lineEnd : XM := (cX9_lineEnd, yX9_lineEnd, 3, (some .int), 274)
theorem FX9_lineEnd : xMF mX9_lineEnd 1 := ⟨by decide +kernel, xTb_mem 1202 (by decide +kernel) rfl, xTb_mem 70 (by decide +kernel) rfl, by decide +kernel, by decide +kernel, by decide +kernel, by decide⟩
theorem VX9_lineEnd : xMV mX9_lineEnd := ⟨xTb_mem 1201 (by decide +kernel) rfl, xTb_mem 47 (by decide +kernel) rfl⟩
def tX9_line : List (Nat × Instr × Nat) := [(0, .iload_n 1, 1), (1, .i2l, 1), (2, .lconst 0, 1), (3, .aload_n 0, 1), (4, .invokevirtual 192, 3), (7, .iconst 1, 1), (8, .isub, 1), (9, .i2l, 1), (10, .invokestatic 71, 3), (13, .ifCond .eq 15, 3), (16, .iload_n 2, 1), (17, .i2l, 1), (18, .lconst 0, 1), (19, .ldc2_w 143, 3), (22, .invokestatic 71, 3), (25, .ifCond .ne 5, 3), (28, .iconst (-1), 1), (29, .ireturn, 1), (30, .iload_n 1, 1), (31, .aload_n 0, 1), (32, .getfield 28, 3), (35, .bipush 80, 2), (37, .iaload, 1), (38, .imul, 1), (39, .istore_n 3, 1), (40, .iload_n 2, 1), (41, .ifCond .ne 12, 3), (44, .aload_n 0, 1), (45, .getfield 40, 3), (48, .iload_n 3, 1), (49, .iaload, 1), (50, .goto 38, 3), (53, .iload_n 2, 1), (54, .iconst 1, 1), (55, .if_icmp .ne 23, 3), (58, .aload_n 0, 1), (59, .getfield 40, 3), (62, .aload_n 0, 1), (63, .iload_n 1, 1), (64, .invokevirtual 205, 3), (67, .iaload, 1), (68, .aload_n 0, 1), (69, .getfield 40, 3), (72, .iload_n 3, 1), (73, .iaload, 1), (74, .isub, 1), (75, .goto 13, 3), (78, .aload_n 0, 1), (79, .iload_n 3, 1), (80, .aload_n 0, 1), (81, .iload_n 1, 1), (82, .invokevirtual 205, 3), (85, .invokevirtual 195, 3), (88, .ireturn, 1)]
theorem DX9_line : xdt cX9_line tX9_line = true := by decide +kernel
abbrev mX9_line : XM := (cX9_line, yX9_line, 4, (some .int), 274)
theorem FX9_line : xMF mX9_line 2 := ⟨by decide +kernel, xTb_mem 1198 (by decide +kernel) rfl, xTb_mem 70 (by decide +kernel) rfl, by decide +kernel, by decide +kernel, by decide +kernel, by decide⟩
theorem VX9_line : xMV mX9_line := ⟨xTb_mem 1196 (by decide +kernel) rfl, xTb_mem 1197 (by decide +kernel) rfl⟩
def tX9_seek : List (Nat × Instr × Nat) := [(0, .aload_n 0, 1), (1, .iload_n 1, 1), (2, .invokevirtual 140, 3), (5, .ifCond .ne 5, 3), (8, .iconst (-1), 1), (9, .ireturn, 1), (10, .iload_n 1, 1), (11, .iconst 1, 1), (12, .iadd, 1), (13, .istore_n 2, 1), (14, .iload_n 2, 1), (15, .aload_n 0, 1), (16, .getfield 103, 3), (19, .if_icmp .ge 20, 3), (22, .aload_n 0, 1), (23, .getfield 40, 3), (26, .iload_n 2, 1), (27, .iaload, 1), (28, .bipush (-4), 2), (30, .if_icmp .ne 9, 3), (33, .iinc 2 1, 3), (36, .goto (-22), 3), (39, .aload_n 0, 1), (40, .getfield 40, 3), (43, .iload_n 2, 1), (44, .iaload, 1), (45, .aload_n 0, 1), (46, .getfield 40, 3), (49, .iload_n 1, 1), (50, .aload_n 0, 1), (51, .getfield 28, 3), (54, .bipush 80, 2), (56, .iaload, 1), (57, .idiv, 1), (58, .aload_n 0, 1), (59, .getfield 28, 3), (62, .bipush 80, 2), (64, .iaload, 1), (65, .imul, 1), (66, .iaload, 1), (67, .isub, 1), (68, .ireturn, 1)]
theorem DX9_seek : xdt cX9_seek tX9_seek = true := by decide +kernel
abbrev mX9_seek : XM := (cX9_seek, yX9_seek, 3, (some .int), 274)
theorem FX9_seek : xMF mX9_seek 1 := ⟨by decide +kernel, xTb_mem 1206 (by decide +kernel) rfl, xTb_mem 70 (by decide +kernel) rfl, by decide +kernel, by decide +kernel, by decide +kernel, by decide⟩
theorem VX9_seek : xMV mX9_seek := ⟨xTb_mem 1204 (by decide +kernel) rfl, xTb_mem 1205 (by decide +kernel) rfl⟩
def tX9_start : List (Nat × Instr × Nat) := [(0, .iload_n 1, 1), (1, .i2l, 1), (2, .lconst 0, 1), (3, .lconst 1, 1), (4, .invokestatic 71, 3), (7, .ifCond .ne 5, 3), (10, .iconst (-1), 1), (11, .ireturn, 1), (12, .aload_n 0, 1), (13, .iconst 1, 1), (14, .putfield 109, 3), (17, .aload_n 0, 1), (18, .iload_n 1, 1), (19, .putfield 208, 3), (22, .aload_n 0, 1), (23, .iconst 0, 1), (24, .putfield 211, 3), (27, .aload_n 0, 1), (28, .iconst 0, 1), (29, .putfield 214, 3), (32, .aload_n 0, 1), (33, .iconst 0, 1), (34, .putfield 217, 3), (37, .aload_n 0, 1), (38, .iconst 0, 1), (39, .putfield 220, 3), (42, .aload_n 0, 1), (43, .iconst 0, 1), (44, .putfield 223, 3), (47, .aload_n 0, 1), (48, .iconst 0, 1), (49, .putfield 226, 3), (52, .aload_n 0, 1), (53, .iconst 0, 1), (54, .putfield 229, 3), (57, .aload_n 0, 1), (58, .iconst 0, 1), (59, .putfield 232, 3), (62, .iconst 0, 1), (63, .istore_n 2, 1), (64, .iload_n 2, 1), (65, .bipush 10, 2), (67, .if_icmp .ge 16, 3), (70, .aload_n 0, 1), (71, .getfield 43, 3), (74, .iload_n 2, 1), (75, .iconst 0, 1), (76, .iastore, 1), (77, .iinc 2 1, 3), (80, .goto (-16), 3), (83, .iconst 0, 1), (84, .ireturn, 1)]
theorem DX9_start : xdt cX9_start tX9_start = true := by decide +kernel
abbrev mX9_start : XM := (cX9_start, yX9_start, 3, (some .int), 274)
theorem FX9_start : xMF mX9_start 1 := ⟨by decide +kernel, xTb_mem 1210 (by decide +kernel) rfl, xTb_mem 70 (by decide +kernel) rfl, by decide +kernel, by decide +kernel, by decide +kernel, by decide⟩
theorem VX9_start : xMV mX9_start := ⟨xTb_mem 1208 (by decide +kernel) rfl, xTb_mem 1209 (by decide +kernel) rfl⟩
def tX9_goesOn : List (Nat × Instr × Nat) := [(0, .aload_n 0, 1), (1, .getfield 211, 3), (4, .bipush (-4), 2), (6, .if_icmp .eq 32, 3), (9, .aload_n 0, 1), (10, .getfield 220, 3), (13, .bipush 12, 2), (15, .if_icmp .ne 23, 3), (18, .aload_n 0, 1), (19, .getfield 19, 3), (22, .aload_n 0, 1), (23, .getfield 211, 3), (26, .iaload, 1), (27, .bipush 119, 2), (29, .if_icmp .ne 9, 3), (32, .aload_n 0, 1), (33, .bipush (-4), 2), (35, .putfield 211, 3), (38, .aload_n 0, 1), (39, .getfield 211, 3), (42, .bipush (-4), 2), (44, .if_icmp .eq 7, 3), (47, .iconst 1, 1), (48, .goto 4, 3), (51, .iconst 0, 1), (52, .ireturn, 1)]
theorem DX9_goesOn : xdt cX9_goesOn tX9_goesOn = true := by decide +kernel
abbrev mX9_goesOn : XM := (cX9_goesOn, yX9_goesOn, 1, (some .boolean), 274)
theorem FX9_goesOn : xMF mX9_goesOn 0 := ⟨by decide +kernel, xTb_mem 1219 (by decide +kernel) rfl, xTb_mem 70 (by decide +kernel) rfl, by decide +kernel, by decide +kernel, by decide +kernel, by decide⟩
theorem VX9_goesOn : xMV mX9_goesOn := ⟨xTb_mem 1218 (by decide +kernel) rfl, xTb_mem 48 (by decide +kernel) rfl⟩
def tX9_placeOf : List (Nat × Instr × Nat) := [(0, .aload_n 0, 1), (1, .getfield 208, 3), (4, .ifCond .ne 7, 3), (7, .iload_n 1, 1), (8, .goto 9, 3), (11, .aload_n 0, 1), (12, .getfield 40, 3), (15, .iload_n 1, 1), (16, .iaload, 1), (17, .ireturn, 1)]
theorem DX9_placeOf : xdt cX9_placeOf tX9_placeOf = true := by decide +kernel
abbrev mX9_placeOf : XM := (cX9_placeOf, yX9_placeOf, 2, (some .int), 274)
theorem FX9_placeOf : xMF mX9_placeOf 1 := ⟨by decide +kernel, xTb_mem 1237 (by decide +kernel) rfl, xTb_mem 70 (by decide +kernel) rfl, by decide +kernel, by decide +kernel, by decide +kernel, by decide⟩
theorem VX9_placeOf : xMV mX9_placeOf := ⟨xTb_mem 1236 (by decide +kernel) rfl, xTb_mem 52 (by decide +kernel) rfl⟩
def tX9_byAddress : List (Nat × Instr × Nat) := [(0, .iconst 0, 1), (1, .istore_n 1, 1), (2, .iload_n 1, 1), (3, .aload_n 0, 1), (4, .getfield 103, 3), (7, .if_icmp .ge 44, 3), (10, .aload_n 0, 1), (11, .getfield 19, 3), (14, .iload_n 1, 1), (15, .iaload, 1), (16, .bipush 107, 2), (18, .if_icmp .ne 27, 3), (21, .aload_n 0, 1), (22, .aload_n 0, 1), (23, .getfield 22, 3), (26, .iload_n 1, 1), (27, .iaload, 1), (28, .invokevirtual 235, 3), (31, .aload_n 0, 1), (32, .getfield 214, 3), (35, .if_icmp .ne 10, 3), (38, .aload_n 0, 1), (39, .getfield 22, 3), (42, .iload_n 1, 1), (43, .iaload, 1), (44, .ireturn, 1), (45, .iinc 1 1, 3), (48, .goto (-46), 3), (51, .aload_n 0, 1), (52, .iconst 1, 1), (53, .putfield 223, 3), (56, .bipush (-4), 2), (58, .ireturn, 1)]
theorem DX9_byAddress : xdt cX9_byAddress tX9_byAddress = true := by decide +kernel
abbrev mX9_byAddress : XM := (cX9_byAddress, yX9_byAddress, 2, (some .int), 274)
theorem FX9_byAddress : xMF mX9_byAddress 0 := ⟨by decide +kernel, xTb_mem 1241 (by decide +kernel) rfl, xTb_mem 70 (by decide +kernel) rfl, by decide +kernel, by decide +kernel, by decide +kernel, by decide⟩
theorem VX9_byAddress : xMV mX9_byAddress := ⟨xTb_mem 1240 (by decide +kernel) rfl, xTb_mem 53 (by decide +kernel) rfl⟩
def tX9_holdLine : List (Nat × Instr × Nat) := [(0, .iconst 0, 1), (1, .istore_n 2, 1), (2, .iload_n 2, 1), (3, .aload_n 0, 1), (4, .getfield 232, 3), (7, .if_icmp .ge 19, 3), (10, .aload_n 0, 1), (11, .getfield 49, 3), (14, .iload_n 2, 1), (15, .iaload, 1), (16, .iload_n 1, 1), (17, .if_icmp .eq 9, 3), (20, .iinc 2 1, 3), (23, .goto (-21), 3), (26, .iload_n 2, 1), (27, .aload_n 0, 1), (28, .getfield 232, 3), (31, .if_icmp .ne 66, 3), (34, .aload_n 0, 1), (35, .dup, 1), (36, .getfield 226, 3), (39, .iconst 1, 1), (40, .iadd, 1), (41, .putfield 226, 3), (44, .aload_n 0, 1), (45, .dup, 1), (46, .getfield 229, 3), (49, .aload_n 0, 1), (50, .iload_n 1, 1), (51, .iconst 1, 1), (52, .invokevirtual 238, 3), (55, .iadd, 1), (56, .putfield 229, 3), (59, .aload_n 0, 1), (60, .aload_n 0, 1), (61, .getfield 232, 3), (64, .aload_n 0, 1), (65, .getfield 28, 3), (68, .bipush 81, 2), (70, .iaload, 1), (71, .if_icmp .ge 12, 3), (74, .aload_n 0, 1), (75, .getfield 232, 3), (78, .iconst 1, 1), (79, .iadd, 1), (80, .goto 7, 3), (83, .aload_n 0, 1), (84, .getfield 232, 3), (87, .putfield 232, 3), (90, .aload_n 0, 1), (91, .getfield 232, 3), (94, .iconst 1, 1), (95, .isub, 1), (96, .istore_n 2, 1), (97, .iload_n 2, 1), (98, .istore_n 3, 1), (99, .iload_n 3, 1), (100, .ifCond .le 23, 3), (103, .aload_n 0, 1), (104, .getfield 49, 3), (107, .iload_n 3, 1), (108, .aload_n 0, 1), (109, .getfield 49, 3), (112, .iload_n 3, 1), (113, .iconst 1, 1), (114, .isub, 1), (115, .iaload, 1), (116, .iastore, 1), (117, .iinc 3 (-1), 3), (120, .goto (-21), 3), (123, .aload_n 0, 1), (124, .getfield 49, 3), (127, .iconst 0, 1), (128, .iload_n 1, 1), (129, .iastore, 1), (130, .return_, 1)]
theorem DX9_holdLine : xdt cX9_holdLine tX9_holdLine = true := by decide +kernel
abbrev mX9_holdLine : XM := (cX9_holdLine, yX9_holdLine, 4, none, 274)
theorem FX9_holdLine : xMF mX9_holdLine 1 := ⟨by decide +kernel, xTb_mem 1227 (by decide +kernel) rfl, xTb_mem 70 (by decide +kernel) rfl, by decide +kernel, by decide +kernel, by decide +kernel, by decide⟩
theorem VX9_holdLine : xMV mX9_holdLine := ⟨xTb_mem 1226 (by decide +kernel) rfl, xTb_mem 50 (by decide +kernel) rfl⟩
def tX9_simple : List (Nat × Instr × Nat) := [(0, .iload_n 1, 1), (1, .lookupswitch 151 #[(97, 59), (108, 117), (109, 75), (112, 130), (115, 104), (120, 91)], 59), (60, .aload_n 0, 1), (61, .aload_n 0, 1), (62, .getfield 214, 3), (65, .iload_n 2, 1), (66, .iadd, 1), (67, .ldc 241, 2), (69, .irem, 1), (70, .putfield 214, 3), (73, .goto 107, 3), (76, .aload_n 0, 1), (77, .aload_n 0, 1), (78, .getfield 214, 3), (81, .iload_n 2, 1), (82, .imul, 1), (83, .ldc 241, 2), (85, .irem, 1), (86, .putfield 214, 3), (89, .goto 91, 3), (92, .aload_n 0, 1), (93, .aload_n 0, 1), (94, .getfield 214, 3), (97, .iload_n 2, 1), (98, .ixor, 1), (99, .putfield 214, 3), (102, .goto 78, 3), (105, .aload_n 0, 1), (106, .getfield 43, 3), (109, .iload_n 2, 1), (110, .aload_n 0, 1), (111, .getfield 214, 3), (114, .iastore, 1), (115, .goto 65, 3), (118, .aload_n 0, 1), (119, .aload_n 0, 1), (120, .getfield 43, 3), (123, .iload_n 2, 1), (124, .iaload, 1), (125, .putfield 214, 3), (128, .goto 52, 3), (131, .aload_n 0, 1), (132, .aload_n 0, 1), (133, .getfield 214, 3), (136, .aload_n 0, 1), (137, .getfield 43, 3), (140, .iload_n 2, 1), (141, .iaload, 1), (142, .iadd, 1), (143, .ldc 241, 2), (145, .irem, 1), (146, .putfield 214, 3), (149, .goto 31, 3), (152, .aload_n 0, 1), (153, .getfield 46, 3), (156, .aload_n 0, 1), (157, .getfield 220, 3), (160, .aload_n 0, 1), (161, .getfield 214, 3), (164, .iload_n 2, 1), (165, .iadd, 1), (166, .ldc 241, 2), (168, .irem, 1), (169, .iastore, 1), (170, .aload_n 0, 1), (171, .dup, 1), (172, .getfield 220, 3), (175, .iconst 1, 1), (176, .iadd, 1), (177, .putfield 220, 3), (180, .return_, 1)]
theorem DX9_simple : xdt cX9_simple tX9_simple = true := by decide +kernel
abbrev mX9_simple : XM := (cX9_simple, yX9_simple, 3, none, 274)
theorem FX9_simple : xMF mX9_simple 2 := ⟨by decide +kernel, xTb_mem 1232 (by decide +kernel) rfl, xTb_mem 70 (by decide +kernel) rfl, by decide +kernel, by decide +kernel, by decide +kernel, by decide⟩
theorem VX9_simple : xMV mX9_simple := ⟨xTb_mem 1231 (by decide +kernel) rfl, xTb_mem 51 (by decide +kernel) rfl⟩
def tX9_oneStep : List (Nat × Instr × Nat) := [(0, .aload_n 0, 1), (1, .getfield 19, 3), (4, .aload_n 0, 1), (5, .getfield 211, 3), (8, .iaload, 1), (9, .istore_n 1, 1), (10, .aload_n 0, 1), (11, .getfield 22, 3), (14, .aload_n 0, 1), (15, .getfield 211, 3), (18, .iaload, 1), (19, .istore_n 2, 1), (20, .aload_n 0, 1), (21, .getfield 211, 3), (24, .iconst 1, 1), (25, .iadd, 1), (26, .aload_n 0, 1), (27, .getfield 103, 3), (30, .if_icmp .ge 12, 3), (33, .aload_n 0, 1), (34, .getfield 211, 3), (37, .iconst 1, 1), (38, .iadd, 1), (39, .goto 5, 3), (42, .bipush (-4), 2), (44, .istore_n 3, 1), (45, .aload_n 0, 1), (46, .getfield 208, 3), (49, .iconst 1, 1), (50, .if_icmp .ne 19, 3), (53, .aload_n 0, 1), (54, .aload_n 0, 1), (55, .getfield 211, 3), (58, .aload_n 0, 1), (59, .getfield 28, 3), (62, .bipush 80, 2), (64, .iaload, 1), (65, .idiv, 1), (66, .invokevirtual 242, 3), (69, .aload_n 0, 1), (70, .dup, 1), (71, .getfield 217, 3), (74, .iconst 1, 1), (75, .iadd, 1), (76, .putfield 217, 3), (79, .iload_n 1, 1), (80, .invokestatic 86, 3), (83, .ifCond .eq 12, 3), (86, .aload_n 0, 1), (87, .iload_n 1, 1), (88, .iload_n 2, 1), (89, .invokevirtual 246, 3), (92, .goto 68, 3), (95, .iload_n 1, 1), (96, .bipush 106, 2), (98, .if_icmp .eq 16, 3), (101, .iload_n 1, 1), (102, .bipush 122, 2), (104, .if_icmp .ne 15, 3), (107, .aload_n 0, 1), (108, .getfield 214, 3), (111, .ifCond .ne 8, 3), (114, .iload_n 2, 1), (115, .istore_n 3, 1), (116, .goto 44, 3), (119, .iload_n 1, 1), (120, .bipush 107, 2), (122, .if_icmp .ne 15, 3), (125, .aload_n 0, 1), (126, .aload_n 0, 1), (127, .iload_n 2, 1), (128, .invokevirtual 235, 3), (131, .putfield 214, 3), (134, .goto 26, 3), (137, .iload_n 1, 1), (138, .bipush 113, 2), (140, .if_icmp .ne 11, 3), (143, .aload_n 0, 1), (144, .invokevirtual 249, 3), (147, .istore_n 3, 1), (148, .goto 12, 3), (151, .iload_n 1, 1), (152, .bipush 104, 2), (154, .if_icmp .ne 6, 3), (157, .bipush (-4), 2), (159, .istore_n 3, 1), (160, .aload_n 0, 1), (161, .iload_n 3, 1), (162, .putfield 211, 3), (165, .return_, 1)]
theorem DX9_oneStep : xdt cX9_oneStep tX9_oneStep = true := by decide +kernel
abbrev mX9_oneStep : XM := (cX9_oneStep, yX9_oneStep, 4, none, 274)
theorem FX9_oneStep : xMF mX9_oneStep 0 := ⟨by decide +kernel, xTb_mem 1223 (by decide +kernel) rfl, xTb_mem 70 (by decide +kernel) rfl, by decide +kernel, by decide +kernel, by decide +kernel, by decide⟩
theorem VX9_oneStep : xMV mX9_oneStep := ⟨xTb_mem 1222 (by decide +kernel) rfl, xTb_mem 49 (by decide +kernel) rfl⟩
def tX9_step : List (Nat × Instr × Nat) := [(0, .iload_n 1, 1), (1, .i2l, 1), (2, .lconst 1, 1), (3, .ldc2_w 252, 3), (6, .invokestatic 71, 3), (9, .ifCond .ne 5, 3), (12, .iconst (-1), 1), (13, .ireturn, 1), (14, .aload_n 0, 1), (15, .getfield 109, 3), (18, .ifCond .eq 12, 3), (21, .aload_n 0, 1), (22, .getfield 211, 3), (25, .bipush (-4), 2), (27, .if_icmp .ne 6, 3), (30, .bipush (-2), 2), (32, .ireturn, 1), (33, .iconst 0, 1), (34, .istore_n 2, 1), (35, .iload_n 2, 1), (36, .iload_n 1, 1), (37, .if_icmp .ge 20, 3), (40, .aload_n 0, 1), (41, .invokevirtual 254, 3), (44, .ifCond .eq 13, 3), (47, .aload_n 0, 1), (48, .invokevirtual 257, 3), (51, .iinc 2 1, 3), (54, .goto (-19), 3), (57, .iload_n 2, 1), (58, .ireturn, 1)]
theorem DX9_step : xdt cX9_step tX9_step = true := by decide +kernel
abbrev mX9_step : XM := (cX9_step, yX9_step, 3, (some .int), 274)
theorem FX9_step : xMF mX9_step 1 := ⟨by decide +kernel, xTb_mem 1214 (by decide +kernel) rfl, xTb_mem 70 (by decide +kernel) rfl, by decide +kernel, by decide +kernel, by decide +kernel, by decide⟩
theorem VX9_step : xMV mX9_step := ⟨xTb_mem 1212 (by decide +kernel) rfl, xTb_mem 1213 (by decide +kernel) rfl⟩
def tX9_now : List (Nat × Instr × Nat) := [(0, .iload_n 1, 1), (1, .i2l, 1), (2, .lconst 0, 1), (3, .ldc2_w 176, 3), (6, .invokestatic 71, 3), (9, .ifCond .ne 5, 3), (12, .iconst (-1), 1), (13, .ireturn, 1), (14, .aload_n 0, 1), (15, .getfield 109, 3), (18, .ifCond .ne 6, 3), (21, .bipush (-2), 2), (23, .ireturn, 1), (24, .iload_n 1, 1), (25, .tableswitch 87 0 7 #[47, 52, 57, 62, 67, 72, 77, 82], 47), (72, .aload_n 0, 1), (73, .getfield 211, 3), (76, .ireturn, 1), (77, .aload_n 0, 1), (78, .getfield 214, 3), (81, .ireturn, 1), (82, .aload_n 0, 1), (83, .getfield 217, 3), (86, .ireturn, 1), (87, .aload_n 0, 1), (88, .getfield 220, 3), (91, .ireturn, 1), (92, .aload_n 0, 1), (93, .getfield 223, 3), (96, .ireturn, 1), (97, .aload_n 0, 1), (98, .getfield 226, 3), (101, .ireturn, 1), (102, .aload_n 0, 1), (103, .getfield 229, 3), (106, .ireturn, 1), (107, .aload_n 0, 1), (108, .getfield 232, 3), (111, .ireturn, 1), (112, .aload_n 0, 1), (113, .getfield 208, 3), (116, .ireturn, 1)]
theorem DX9_now : xdt cX9_now tX9_now = true := by decide +kernel
abbrev mX9_now : XM := (cX9_now, yX9_now, 2, (some .int), 274)
theorem FX9_now : xMF mX9_now 1 := ⟨by decide +kernel, xTb_mem 1245 (by decide +kernel) rfl, xTb_mem 70 (by decide +kernel) rfl, by decide +kernel, by decide +kernel, by decide +kernel, by decide⟩
theorem VX9_now : xMV mX9_now := ⟨xTb_mem 1243 (by decide +kernel) rfl, xTb_mem 1244 (by decide +kernel) rfl⟩
def tX9_held : List (Nat × Instr × Nat) := [(0, .iload_n 1, 1), (1, .ifCond .ge 5, 3), (4, .iconst (-1), 1), (5, .ireturn, 1), (6, .aload_n 0, 1), (7, .getfield 109, 3), (10, .ifCond .ne 8, 3), (13, .bipush (-2), 2), (15, .goto 22, 3), (18, .iload_n 1, 1), (19, .aload_n 0, 1), (20, .getfield 232, 3), (23, .if_icmp .ge 12, 3), (26, .aload_n 0, 1), (27, .getfield 49, 3), (30, .iload_n 1, 1), (31, .iaload, 1), (32, .goto 5, 3), (35, .bipush (-4), 2), (37, .ireturn, 1)]
theorem DX9_held : xdt cX9_held tX9_held = true := by decide +kernel
abbrev mX9_held : XM := (cX9_held, yX9_held, 2, (some .int), 274)
theorem FX9_held : xMF mX9_held 1 := ⟨by decide +kernel, xTb_mem 1249 (by decide +kernel) rfl, xTb_mem 70 (by decide +kernel) rfl, by decide +kernel, by decide +kernel, by decide +kernel, by decide⟩
theorem VX9_held : xMV mX9_held := ⟨xTb_mem 1247 (by decide +kernel) rfl, xTb_mem 1248 (by decide +kernel) rfl⟩
def tX9_cell : List (Nat × Instr × Nat) := [(0, .iload_n 1, 1), (1, .i2l, 1), (2, .lconst 0, 1), (3, .ldc2_w 260, 3), (6, .invokestatic 71, 3), (9, .ifCond .ne 5, 3), (12, .iconst (-1), 1), (13, .ireturn, 1), (14, .aload_n 0, 1), (15, .getfield 109, 3), (18, .ifCond .eq 12, 3), (21, .aload_n 0, 1), (22, .getfield 43, 3), (25, .iload_n 1, 1), (26, .iaload, 1), (27, .goto 5, 3), (30, .bipush (-2), 2), (32, .ireturn, 1)]
theorem DX9_cell : xdt cX9_cell tX9_cell = true := by decide +kernel
abbrev mX9_cell : XM := (cX9_cell, yX9_cell, 2, (some .int), 274)
theorem FX9_cell : xMF mX9_cell 1 := ⟨by decide +kernel, xTb_mem 1253 (by decide +kernel) rfl, xTb_mem 70 (by decide +kernel) rfl, by decide +kernel, by decide +kernel, by decide +kernel, by decide⟩
theorem VX9_cell : xMV mX9_cell := ⟨xTb_mem 1251 (by decide +kernel) rfl, xTb_mem 1252 (by decide +kernel) rfl⟩
def tX9_out : List (Nat × Instr × Nat) := [(0, .iload_n 1, 1), (1, .ifCond .ge 5, 3), (4, .iconst (-1), 1), (5, .ireturn, 1), (6, .aload_n 0, 1), (7, .getfield 109, 3), (10, .ifCond .ne 8, 3), (13, .bipush (-2), 2), (15, .goto 22, 3), (18, .iload_n 1, 1), (19, .aload_n 0, 1), (20, .getfield 220, 3), (23, .if_icmp .ge 12, 3), (26, .aload_n 0, 1), (27, .getfield 46, 3), (30, .iload_n 1, 1), (31, .iaload, 1), (32, .goto 5, 3), (35, .bipush (-4), 2), (37, .ireturn, 1)]
theorem DX9_out : xdt cX9_out tX9_out = true := by decide +kernel
abbrev mX9_out : XM := (cX9_out, yX9_out, 2, (some .int), 274)
theorem FX9_out : xMF mX9_out 1 := ⟨by decide +kernel, xTb_mem 1258 (by decide +kernel) rfl, xTb_mem 70 (by decide +kernel) rfl, by decide +kernel, by decide +kernel, by decide +kernel, by decide⟩
theorem VX9_out : xMV mX9_out := ⟨xTb_mem 1256 (by decide +kernel) rfl, xTb_mem 1257 (by decide +kernel) rfl⟩
def tX9_count : List (Nat × Instr × Nat) := [(0, .iload_n 1, 1), (1, .tableswitch 137 0 8 #[51, 56, 64, 72, 80, 85, 114, 119, 124], 51), (52, .aload_n 0, 1), (53, .getfield 103, 3), (56, .ireturn, 1), (57, .aload_n 0, 1), (58, .getfield 28, 3), (61, .bipush 82, 2), (63, .iaload, 1), (64, .ireturn, 1), (65, .aload_n 0, 1), (66, .getfield 28, 3), (69, .bipush 80, 2), (71, .iaload, 1), (72, .ireturn, 1), (73, .aload_n 0, 1), (74, .getfield 28, 3), (77, .bipush 81, 2), (79, .iaload, 1), (80, .ireturn, 1), (81, .aload_n 0, 1), (82, .invokevirtual 192, 3), (85, .ireturn, 1), (86, .iconst 0, 1), (87, .istore_n 2, 1), (88, .iconst 0, 1), (89, .istore_n 3, 1), (90, .iload_n 3, 1), (91, .aload_n 0, 1), (92, .getfield 103, 3), (95, .if_icmp .ge 18, 3), (98, .iload_n 2, 1), (99, .aload_n 0, 1), (100, .getfield 25, 3), (103, .iload_n 3, 1), (104, .iaload, 1), (105, .iadd, 1), (106, .istore_n 2, 1), (107, .iinc 3 1, 3), (110, .goto (-20), 3), (113, .iload_n 2, 1), (114, .ireturn, 1), (115, .aload_n 0, 1), (116, .getfield 106, 3), (119, .ireturn, 1), (120, .aload_n 0, 1), (121, .getfield 75, 3), (124, .ireturn, 1), (125, .aload_n 0, 1), (126, .getfield 109, 3), (129, .ifCond .eq 7, 3), (132, .iconst 1, 1), (133, .goto 4, 3), (136, .iconst 0, 1), (137, .ireturn, 1), (138, .iconst (-1), 1), (139, .ireturn, 1)]
theorem DX9_count : xdt cX9_count tX9_count = true := by decide +kernel
abbrev mX9_count : XM := (cX9_count, yX9_count, 4, (some .int), 274)
theorem FX9_count : xMF mX9_count 1 := ⟨by decide +kernel, xTb_mem 1262 (by decide +kernel) rfl, xTb_mem 70 (by decide +kernel) rfl, by decide +kernel, by decide +kernel, by decide +kernel, by decide⟩
theorem VX9_count : xMV mX9_count := ⟨xTb_mem 1260 (by decide +kernel) rfl, xTb_mem 1261 (by decide +kernel) rfl⟩
end
section
def tJ0_length_8abf5 : List (Nat × Instr × Nat) := [(0, .aload_n 0, 1), (1, .getfield 9, 3), (4, .arraylength, 1), (5, .aload_n 0, 1), (6, .invokevirtual 335, 3), (9, .ishr, 1), (10, .ireturn, 1)]
theorem DJ0_length_8abf5 : xdt cJ0_length_8abf5 tJ0_length_8abf5 = true := by decide +kernel
abbrev mJ0_length_8abf5 : XM := (cJ0_length_8abf5, yJ0_length_8abf5, 1, (some .int), 0)
theorem FJ0_length_8abf5 : xMF mJ0_length_8abf5 0 := ⟨by decide +kernel, xTb_mem 375 (by decide +kernel) rfl, xTb_mem 64 (by decide +kernel) rfl, by decide +kernel, by decide +kernel, by decide +kernel, by decide⟩
theorem VJ0_length_8abf5 : xMV mJ0_length_8abf5 := ⟨xTb_mem 373 (by decide +kernel) rfl, xTb_mem 374 (by decide +kernel) rfl⟩
def tJ0_charAt_5068e : List (Nat × Instr × Nat) := [(0, .aload_n 0, 1), (1, .invokevirtual 492, 3), (4, .ifCond .eq 12, 3), (7, .aload_n 0, 1), (8, .getfield 9, 3), (11, .iload_n 1, 1), (12, .invokestatic 495, 3), (15, .ireturn, 1), (16, .aload_n 0, 1), (17, .getfield 9, 3), (20, .iload_n 1, 1), (21, .invokestatic 498, 3), (24, .ireturn, 1)]
theorem DJ0_charAt_5068e : xdt cJ0_charAt_5068e tJ0_charAt_5068e = true := by decide +kernel
abbrev mJ0_charAt_5068e : XM := (cJ0_charAt_5068e, yJ0_charAt_5068e, 2, (some .char), 0)
theorem FJ0_charAt_5068e : xMF mJ0_charAt_5068e 1 := ⟨by decide +kernel, xTb_mem 385 (by decide +kernel) rfl, xTb_mem 64 (by decide +kernel) rfl, by decide +kernel, by decide +kernel, by decide +kernel, by decide⟩
theorem VJ0_charAt_5068e : xMV mJ0_charAt_5068e := ⟨xTb_mem 383 (by decide +kernel) rfl, xTb_mem 384 (by decide +kernel) rfl⟩
def tJ0_indexOf_0f7a4 : List (Nat × Instr × Nat) := [(0, .aload_n 0, 1), (1, .iload_n 1, 1), (2, .iconst 0, 1), (3, .invokevirtual 633, 3), (6, .ireturn, 1)]
theorem DJ0_indexOf_0f7a4 : xdt cJ0_indexOf_0f7a4 tJ0_indexOf_0f7a4 = true := by decide +kernel
abbrev mJ0_indexOf_0f7a4 : XM := (cJ0_indexOf_0f7a4, yJ0_indexOf_0f7a4, 2, (some .int), 0)
theorem FJ0_indexOf_0f7a4 : xMF mJ0_indexOf_0f7a4 1 := ⟨by decide +kernel, xTb_mem 436 (by decide +kernel) rfl, xTb_mem 64 (by decide +kernel) rfl, by decide +kernel, by decide +kernel, by decide +kernel, by decide⟩
theorem VJ0_indexOf_0f7a4 : xMV mJ0_indexOf_0f7a4 := ⟨xTb_mem 434 (by decide +kernel) rfl, xTb_mem 435 (by decide +kernel) rfl⟩
def tJ0_indexOf_7cf53 : List (Nat × Instr × Nat) := [(0, .aload_n 0, 1), (1, .invokevirtual 492, 3), (4, .ifCond .eq 19, 3), (7, .aload_n 0, 1), (8, .getfield 9, 3), (11, .iload_n 1, 1), (12, .iload_n 2, 1), (13, .aload_n 0, 1), (14, .invokevirtual 505, 3), (17, .invokestatic 637, 3), (20, .goto 16, 3), (23, .aload_n 0, 1), (24, .getfield 9, 3), (27, .iload_n 1, 1), (28, .iload_n 2, 1), (29, .aload_n 0, 1), (30, .invokevirtual 505, 3), (33, .invokestatic 640, 3), (36, .ireturn, 1)]
theorem DJ0_indexOf_7cf53 : xdt cJ0_indexOf_7cf53 tJ0_indexOf_7cf53 = true := by decide +kernel
abbrev mJ0_indexOf_7cf53 : XM := (cJ0_indexOf_7cf53, yJ0_indexOf_7cf53, 3, (some .int), 0)
theorem FJ0_indexOf_7cf53 : xMF mJ0_indexOf_7cf53 2 := ⟨by decide +kernel, xTb_mem 440 (by decide +kernel) rfl, xTb_mem 64 (by decide +kernel) rfl, by decide +kernel, by decide +kernel, by decide +kernel, by decide⟩
theorem VJ0_indexOf_7cf53 : xMV mJ0_indexOf_7cf53 := ⟨xTb_mem 438 (by decide +kernel) rfl, xTb_mem 439 (by decide +kernel) rfl⟩
def tJ0_coder_7d493 : List (Nat × Instr × Nat) := [(0, .getstatic 38, 3), (3, .ifCond .eq 10, 3), (6, .aload_n 0, 1), (7, .getfield 15, 3), (10, .goto 4, 3), (13, .iconst 1, 1), (14, .ireturn, 1)]
theorem DJ0_coder_7d493 : xdt cJ0_coder_7d493 tJ0_coder_7d493 = true := by decide +kernel
abbrev mJ0_coder_7d493 : XM := (cJ0_coder_7d493, yJ0_coder_7d493, 1, (some .byte), 0)
theorem FJ0_coder_7d493 : xMF mJ0_coder_7d493 0 := ⟨by decide +kernel, xTb_mem 379 (by decide +kernel) rfl, xTb_mem 64 (by decide +kernel) rfl, by decide +kernel, by decide +kernel, by decide +kernel, by decide⟩
theorem VJ0_coder_7d493 : xMV mJ0_coder_7d493 := ⟨xTb_mem 377 (by decide +kernel) rfl, xTb_mem 378 (by decide +kernel) rfl⟩
def tJ0_isLatin1_aae02 : List (Nat × Instr × Nat) := [(0, .getstatic 38, 3), (3, .ifCond .eq 14, 3), (6, .aload_n 0, 1), (7, .getfield 15, 3), (10, .ifCond .ne 7, 3), (13, .iconst 1, 1), (14, .goto 4, 3), (17, .iconst 0, 1), (18, .ireturn, 1)]
theorem DJ0_isLatin1_aae02 : xdt cJ0_isLatin1_aae02 tJ0_isLatin1_aae02 = true := by decide +kernel
abbrev mJ0_isLatin1_aae02 : XM := (cJ0_isLatin1_aae02, yJ0_isLatin1_aae02, 1, (some .boolean), 0)
theorem FJ0_isLatin1_aae02 : xMF mJ0_isLatin1_aae02 0 := ⟨by decide +kernel, xTb_mem 389 (by decide +kernel) rfl, xTb_mem 64 (by decide +kernel) rfl, by decide +kernel, by decide +kernel, by decide +kernel, by decide⟩
theorem VJ0_isLatin1_aae02 : xMV mJ0_isLatin1_aae02 := ⟨xTb_mem 387 (by decide +kernel) rfl, xTb_mem 388 (by decide +kernel) rfl⟩
def tJ0_checkIndex_df160 : List (Nat × Instr × Nat) := [(0, .iload_n 0, 1), (1, .iload_n 1, 1), (2, .getstatic 1053, 3), (5, .invokestatic 1059, 3), (8, .pop, 1), (9, .return_, 1)]
theorem DJ0_checkIndex_df160 : xdt cJ0_checkIndex_df160 tJ0_checkIndex_df160 = true := by decide +kernel
abbrev mJ0_checkIndex_df160 : XM := (cJ0_checkIndex_df160, yJ0_checkIndex_df160, 2, none, 0)
theorem FJ0_checkIndex_df160 : xMF mJ0_checkIndex_df160 2 := ⟨by decide +kernel, xTb_mem 395 (by decide +kernel) rfl, xTb_mem 64 (by decide +kernel) rfl, by decide +kernel, by decide +kernel, by decide +kernel, by decide⟩
theorem VJ0_checkIndex_df160 : xMS mJ0_checkIndex_df160 := xTb_mem 394 (by decide +kernel) rfl
def tJ0_checkBoundsBeginEnd_23922 : List (Nat × Instr × Nat) := [(0, .iload_n 0, 1), (1, .iload_n 1, 1), (2, .iload_n 2, 1), (3, .getstatic 1053, 3), (6, .invokestatic 1062, 3), (9, .pop, 1), (10, .return_, 1)]
theorem DJ0_checkBoundsBeginEnd_23922 : xdt cJ0_checkBoundsBeginEnd_23922 tJ0_checkBoundsBeginEnd_23922 = true := by decide +kernel
abbrev mJ0_checkBoundsBeginEnd_23922 : XM := (cJ0_checkBoundsBeginEnd_23922, yJ0_checkBoundsBeginEnd_23922, 3, none, 0)
theorem FJ0_checkBoundsBeginEnd_23922 : xMF mJ0_checkBoundsBeginEnd_23922 3 := ⟨by decide +kernel, xTb_mem 471 (by decide +kernel) rfl, xTb_mem 64 (by decide +kernel) rfl, by decide +kernel, by decide +kernel, by decide +kernel, by decide⟩
theorem VJ0_checkBoundsBeginEnd_23922 : xMS mJ0_checkBoundsBeginEnd_23922 := xTb_mem 470 (by decide +kernel) rfl
def tJ1_charAt_3b067 : List (Nat × Instr × Nat) := [(0, .iload_n 1, 1), (1, .aload_n 0, 1), (2, .arraylength, 1), (3, .invokestatic 9, 3), (6, .aload_n 0, 1), (7, .iload_n 1, 1), (8, .baload, 1), (9, .sipush 255, 3), (12, .iand, 1), (13, .i2c, 1), (14, .ireturn, 1)]
theorem DJ1_charAt_3b067 : xdt cJ1_charAt_3b067 tJ1_charAt_3b067 = true := by decide +kernel
abbrev mJ1_charAt_3b067 : XM := (cJ1_charAt_3b067, yJ1_charAt_3b067, 2, (some .char), 0)
theorem FJ1_charAt_3b067 : xMF mJ1_charAt_3b067 2 := ⟨by decide +kernel, xTb_mem 392 (by decide +kernel) rfl, xTb_mem 65 (by decide +kernel) rfl, by decide +kernel, by decide +kernel, by decide +kernel, by decide⟩
theorem VJ1_charAt_3b067 : xMS mJ1_charAt_3b067 := xTb_mem 391 (by decide +kernel) rfl
def tJ1_canEncode_9a6ad : List (Nat × Instr × Nat) := [(0, .iload_n 0, 1), (1, .ifCond .lt 14, 3), (4, .iload_n 0, 1), (5, .sipush 255, 3), (8, .if_icmp .gt 7, 3), (11, .iconst 1, 1), (12, .goto 4, 3), (15, .iconst 0, 1), (16, .ireturn, 1)]
theorem DJ1_canEncode_9a6ad : xdt cJ1_canEncode_9a6ad tJ1_canEncode_9a6ad = true := by decide +kernel
abbrev mJ1_canEncode_9a6ad : XM := (cJ1_canEncode_9a6ad, yJ1_canEncode_9a6ad, 1, (some .boolean), 0)
theorem FJ1_canEncode_9a6ad : xMF mJ1_canEncode_9a6ad 1 := ⟨by decide +kernel, xTb_mem 447 (by decide +kernel) rfl, xTb_mem 65 (by decide +kernel) rfl, by decide +kernel, by decide +kernel, by decide +kernel, by decide⟩
theorem VJ1_canEncode_9a6ad : xMS mJ1_canEncode_9a6ad := xTb_mem 446 (by decide +kernel) rfl
def tJ1_indexOf_4cfef : List (Nat × Instr × Nat) := [(0, .iload_n 1, 1), (1, .invokestatic 88, 3), (4, .ifCond .ne 5, 3), (7, .iconst (-1), 1), (8, .ireturn, 1), (9, .iload_n 2, 1), (10, .iconst 0, 1), (11, .invokestatic 92, 3), (14, .istore_n 2, 1), (15, .iload_n 3, 1), (16, .aload_n 0, 1), (17, .arraylength, 1), (18, .invokestatic 38, 3), (21, .istore_n 3, 1), (22, .iload_n 2, 1), (23, .iload_n 3, 1), (24, .if_icmp .lt 5, 3), (27, .iconst (-1), 1), (28, .ireturn, 1), (29, .aload_n 0, 1), (30, .iload_n 1, 1), (31, .iload_n 2, 1), (32, .iload_n 3, 1), (33, .invokestatic 95, 3), (36, .ireturn, 1)]
theorem DJ1_indexOf_4cfef : xdt cJ1_indexOf_4cfef tJ1_indexOf_4cfef = true := by decide +kernel
abbrev mJ1_indexOf_4cfef : XM := (cJ1_indexOf_4cfef, yJ1_indexOf_4cfef, 4, (some .int), 0)
theorem FJ1_indexOf_4cfef : xMF mJ1_indexOf_4cfef 4 := ⟨by decide +kernel, xTb_mem 444 (by decide +kernel) rfl, xTb_mem 65 (by decide +kernel) rfl, by decide +kernel, by decide +kernel, by decide +kernel, by decide⟩
theorem VJ1_indexOf_4cfef : xMS mJ1_indexOf_4cfef := xTb_mem 443 (by decide +kernel) rfl
def tJ1_indexOfChar_4cfef : List (Nat × Instr × Nat) := [(0, .iload_n 1, 1), (1, .i2b, 1), (2, .istore 4, 2), (4, .iload_n 2, 1), (5, .istore 5, 2), (7, .iload 5, 2), (9, .iload_n 3, 1), (10, .if_icmp .ge 21, 3), (13, .aload_n 0, 1), (14, .iload 5, 2), (16, .baload, 1), (17, .iload 4, 2), (19, .if_icmp .ne 6, 3), (22, .iload 5, 2), (24, .ireturn, 1), (25, .iinc 5 1, 3), (28, .goto (-21), 3), (31, .iconst (-1), 1), (32, .ireturn, 1)]
theorem DJ1_indexOfChar_4cfef : xdt cJ1_indexOfChar_4cfef tJ1_indexOfChar_4cfef = true := by decide +kernel
abbrev mJ1_indexOfChar_4cfef : XM := (cJ1_indexOfChar_4cfef, yJ1_indexOfChar_4cfef, 6, (some .int), 0)
theorem FJ1_indexOfChar_4cfef : xMF mJ1_indexOfChar_4cfef 4 := ⟨by decide +kernel, xTb_mem 456 (by decide +kernel) rfl, xTb_mem 65 (by decide +kernel) rfl, by decide +kernel, by decide +kernel, by decide +kernel, by decide⟩
theorem VJ1_indexOfChar_4cfef : xMS mJ1_indexOfChar_4cfef := xTb_mem 455 (by decide +kernel) rfl
end
section
/-! whole numbers, told to the machine modulo 2^32 -/
abbrev xrg (z : Int) : Prop := -2147483648 ≤ z ∧ z < 2147483648
theorem xI {z : Int} (h : xrg z) : (Int32.ofInt z).toInt = z := Int32.toInt_ofInt_of_le h.1 h.2
theorem xle {a b : Int} (ha : xrg a) (hb : xrg b) : Int32.ofInt a ≤ Int32.ofInt b ↔ a ≤ b := by rw [Int32.le_iff_toInt_le, xI ha, xI hb]
theorem xlt {a b : Int} (ha : xrg a) (hb : xrg b) : Int32.ofInt a < Int32.ofInt b ↔ a < b := by rw [Int32.lt_iff_toInt_lt, xI ha, xI hb]
theorem xeq {a b : Int} (ha : xrg a) (hb : xrg b) : Int32.ofInt a = Int32.ofInt b ↔ a = b := by rw [← Int32.toInt_inj, xI ha, xI hb]
theorem xrg0 : xrg 0 := by decide
theorem xz : (0 : Int32) = Int32.ofInt 0 := rfl
theorem xclamp {z : Int} (h : 0 ≤ z) (h2 : z < 2147483648) : (Int32.ofInt z).toNatClampNeg = z.toNat := by
  rw [← Int32.toNat_toInt, xI ⟨by omega, h2⟩]
theorem xin {z : Int} {n : Nat} (h : 0 ≤ z) (h2 : z < n) (hn : n < 2147483648) : vp_in (Int32.ofInt z) n := by
  rintro (q | q)
  · rw [xz, xlt ⟨by omega, by omega⟩ xrg0] at q
    omega
  · rw [xclamp h (by omega)] at q
    omega
theorem xbv (a : Int) : (Int32.ofInt a).toBitVec.toNat = (a % 4294967296).toNat := by
  show (BitVec.ofInt 32 a).toNat = _
  rw [BitVec.toNat_ofInt]
  rfl
theorem xnI (n : Nat) : nI n = Int32.ofInt n := by
  unfold nI
  rfl
theorem xand (a : Int) (k : Nat) (m : Int) (hm : (Int32.ofInt m).toBitVec.toNat = 2 ^ k - 1) (hk : k ≤ 30) : Int32.ofInt a &&& Int32.ofInt m = Int32.ofInt (a % (2 ^ k : Nat)) := by
  rw [pk_and _ k hm, xnI, xbv]
  congr 1
  have h2 : (4294967296 : Int) = ((2 ^ k : Nat) : Int) * ((2 ^ (32 - k) : Nat) : Int) := by
    rw [← Int.natCast_mul, ← Nat.pow_add, show k + (32 - k) = 32 by omega]
    rfl
  have h3 : 0 ≤ a % 4294967296 := Int.emod_nonneg _ (by decide)
  rw [Int.natCast_emod, Int.toNat_of_nonneg h3, h2, Int.emod_emod_of_dvd _ (Int.dvd_mul_right _ _)]
theorem xand65535 (a : Int) : Int32.ofInt a &&& Int32.ofInt 65535 = Int32.ofInt (a % 65536) := xand a 16 65535 (by decide) (by decide)
theorem xand15 (a : Int) : Int32.ofInt a &&& Int32.ofInt 15 = Int32.ofInt (a % 16) := xand a 4 15 (by decide) (by decide)
theorem xand31 (a : Int) : Int32.ofInt a &&& Int32.ofInt 31 = Int32.ofInt (a % 32) := xand a 5 31 (by decide) (by decide)
def xxor (a b : Int) : Int := (Int32.ofInt a ^^^ Int32.ofInt b).toInt
theorem xxor_of (a b : Int) : Int32.ofInt a ^^^ Int32.ofInt b = Int32.ofInt (xxor a b) := by unfold xxor; exact (Int32.ofInt_toInt _).symm
theorem xxor_rg {a b : Int} (ha : 0 ≤ a) (ha' : a < 65536) (hb : 0 ≤ b) (hb' : b < 65536) : 0 ≤ xxor a b ∧ xxor a b < 65536 := by
  have e : (Int32.ofInt a ^^^ Int32.ofInt b).toBitVec.toNat = (a % 4294967296).toNat ^^^ (b % 4294967296).toNat := by
    rw [Int32.toBitVec_xor, BitVec.toNat_xor, xbv, xbv]
  have h1 : (a % 4294967296).toNat < 2 ^ 16 := by omega
  have h2 : (b % 4294967296).toNat < 2 ^ 16 := by omega
  have h3 := Nat.xor_lt_two_pow h1 h2
  have h4 : xxor a b = ((a % 4294967296).toNat ^^^ (b % 4294967296).toNat : Nat) := by
    unfold xxor
    rw [← e]
    show (Int32.ofInt a ^^^ Int32.ofInt b).toBitVec.toInt = _
    rw [BitVec.toInt_eq_toNat_cond, if_pos (by rw [e]; omega)]
  omega
theorem xdiv {a b : Int} (ha : 0 ≤ a) (ha' : a < 2147483648) (hb : 0 < b) (hb' : b < 2147483648) : Int32.ofInt a / Int32.ofInt b = Int32.ofInt (a / b) := by
  obtain ⟨x, rfl⟩ := Int.eq_ofNat_of_zero_le ha
  obtain ⟨y, rfl⟩ := Int.eq_ofNat_of_zero_le (Int.le_of_lt hb)
  have := pk_div (a := x) (d := y) (by omega) (by omega) (by omega)
  rw [xnI, xnI, xnI] at this
  rw [this]
  rfl
theorem xrem {a b : Int} (ha : 0 ≤ a) (ha' : a < 2147483648) (hb : 0 < b) (hb' : b < 2147483648) : Int32.ofInt a - Int32.ofInt a / Int32.ofInt b * Int32.ofInt b = Int32.ofInt (a % b) := by
  obtain ⟨x, rfl⟩ := Int.eq_ofNat_of_zero_le ha
  obtain ⟨y, rfl⟩ := Int.eq_ofNat_of_zero_le (Int.le_of_lt hb)
  have := pk_rem (a := x) (d := y) (by omega) (by omega) (by omega)
  rw [xnI, xnI, xnI] at this
  rw [this]
  rfl
theorem xshc : ∀ k : Fin 32, ((Int32.ofInt k.val &&& 31).toBitVec.smod 32).toNat = k.val := by decide
theorem xshr {a : Int} (ha : xrg a) {k : Nat} (hk : k < 32) : Int32.ofInt a >>> (Int32.ofInt k &&& 31) = Int32.ofInt (a / (2 ^ k : Nat)) := by
  apply Int32.toInt_inj.mp
  rw [pk_shr _ _ k (xshc ⟨k, hk⟩), xI ha, Int.shiftRight_eq_div_pow, xI]
  have hp : (0 : Int) < ((2 ^ k : Nat) : Int) := by exact_mod_cast Nat.two_pow_pos k
  refine ⟨Int.le_trans ?_ (Int.le_of_eq rfl), ?_⟩
  · rw [Int.le_ediv_iff_mul_le hp]
    have h1 : (1 : Int) ≤ ((2 ^ k : Nat) : Int) := hp
    have h2 : (-2147483648 : Int) * ((2 ^ k : Nat) : Int) ≤ -2147483648 * 1 := Int.mul_le_mul_of_nonpos_left (by decide) h1
    exact Int.le_trans h2 (by have := ha.1; omega)
  · rw [Int.ediv_lt_iff_lt_mul hp]
    have h1 : (1 : Int) ≤ ((2 ^ k : Nat) : Int) := hp
    have h2 : (2147483648 : Int) * 1 ≤ 2147483648 * ((2 ^ k : Nat) : Int) := Int.mul_le_mul_of_nonneg_left h1 (by decide)
    exact Int.lt_of_lt_of_le ha.2 (by simpa using h2)
theorem xshl (a : Int) {k : Nat} (hk : k < 32) : Int32.ofInt a <<< (Int32.ofInt k &&& 31) = Int32.ofInt (a * (2 ^ k : Nat)) := by
  apply Int32.toBitVec_inj.mp
  apply BitVec.eq_of_toNat_eq
  rw [pk_shl _ _ k (xshc ⟨k, hk⟩), xbv, xbv]
  have hm : (2:Nat) ^ 32 = 4294967296 := by decide
  rw [hm]
  have e1 : 0 ≤ a % 4294967296 := Int.emod_nonneg _ (by decide)
  have e2 : 0 ≤ (a * (2 ^ k : Nat)) % 4294967296 := Int.emod_nonneg _ (by decide)
  apply Int.natCast_inj.mp
  rw [Int.natCast_emod, Int.natCast_mul, Int.toNat_of_nonneg e1, Int.toNat_of_nonneg e2]
  show a % 4294967296 * ((2 ^ k : Nat) : Int) % 4294967296 = _
  rw [Int.mul_emod, Int.emod_emod, ← Int.mul_emod]
theorem xlong {a : Int} (ha : xrg a) : (Int32.ofInt a).toInt64 = Int64.ofInt a := by
  rw [← Int64.ofInt_int32ToInt, xI ha]
abbrev xrl (z : Int) : Prop := -9223372036854775808 ≤ z ∧ z < 9223372036854775808
theorem xL64 {z : Int} (h : xrl z) : (Int64.ofInt z).toInt = z := Int64.toInt_ofInt_of_le h.1 h.2
theorem xlcmp {a b : Int} (ha : xrl a) (hb : xrl b) : lg_cmp (Int64.ofInt a) (Int64.ofInt b) = Int32.ofInt (if b < a then 1 else if a = b then 0 else -1) := by
  unfold lg_cmp
  have e1 : (Int64.ofInt a > Int64.ofInt b) ↔ b < a := by rw [gt_iff_lt, Int64.lt_iff_toInt_lt, xL64 ha, xL64 hb]
  have e2 : (Int64.ofInt a = Int64.ofInt b) ↔ a = b := by rw [← Int64.toInt_inj, xL64 ha, xL64 hb]
  by_cases h1 : b < a
  · rw [if_pos (e1.mpr h1), if_pos h1]; rfl
  · rw [if_neg (fun q => h1 (e1.mp q)), if_neg h1]
    by_cases h2 : a = b
    · rw [if_pos (e2.mpr h2), if_pos h2]; rfl
    · rw [if_neg (fun q => h2 (e2.mp q)), if_neg h2]; rfl
end
section
/-! rows of the small machine: the pure instructions -/
def xget : List (Nat × XV) → Nat → Option XV
  | [], _ => none
  | q :: L, k => cond (Nat.beq q.1 k) (some q.2) (xget L k)
def xdel (k : Nat) : List (Nat × XV) → List (Nat × XV)
  | [] => []
  | q :: L => cond (Nat.beq q.1 k) (xdel k L) (q :: xdel k L)
def xins (k : Nat) (v : XV) : List (Nat × XV) → List (Nat × XV)
  | [] => [(k, v)]
  | q :: L => cond (Nat.ble q.1 k) (q :: xins k v L) ((k, v) :: q :: L)
def xset (L : List (Nat × XV)) (k : Nat) (v : XV) : List (Nat × XV) := xins k v (xdel k L)
def xnl : List (Nat × XV) → Bool
  | [] => true
  | (_, .inr (.inr _)) :: _ => false
  | _ :: L => xnl L
theorem xget_mem : ∀ {L : List (Nat × XV)} {k : Nat} {v : XV}, xget L k = some v → (k, v) ∈ L
  | [], _, _, h => by cases h
  | q :: L, k, v, h => by
    unfold xget at h
    cases hb : Nat.beq q.1 k with
    | true =>
      rw [hb] at h
      have e1 : q.1 = k := Nat.eq_of_beq_eq_true hb
      have e2 : q.2 = v := Option.some.inj h
      rw [← e1, ← e2]
      exact List.mem_cons_self
    | false =>
      rw [hb] at h
      exact List.mem_cons_of_mem _ (xget_mem h)
theorem xdel_mem : ∀ {L : List (Nat × XV)} {k : Nat} {q : Nat × XV}, q ∈ xdel k L → q ∈ L ∧ q.1 ≠ k
  | [], _, _, h => by cases h
  | a :: L, k, q, h => by
    unfold xdel at h
    cases hb : Nat.beq a.1 k with
    | true =>
      rw [hb] at h
      have := xdel_mem (L := L) h
      exact ⟨List.mem_cons_of_mem _ this.1, this.2⟩
    | false =>
      rw [hb] at h
      rcases List.mem_cons.mp h with e | h
      · subst e
        exact ⟨List.mem_cons_self, Nat.ne_of_beq_eq_false hb⟩
      · have := xdel_mem (L := L) h
        exact ⟨List.mem_cons_of_mem _ this.1, this.2⟩
theorem xins_mem : ∀ {L : List (Nat × XV)} {k : Nat} {v : XV} {q : Nat × XV}, q ∈ xins k v L → q = (k, v) ∨ q ∈ L
  | [], _, _, _, h => Or.inl (List.mem_singleton.mp h)
  | a :: L, k, v, q, h => by
    unfold xins at h
    cases hb : Nat.ble a.1 k with
    | true =>
      rw [hb] at h
      rcases List.mem_cons.mp h with e | h
      · exact Or.inr (by rw [e]; exact List.mem_cons_self)
      · rcases xins_mem (L := L) h with e | h
        · exact Or.inl e
        · exact Or.inr (List.mem_cons_of_mem _ h)
    | false =>
      rw [hb] at h
      rcases List.mem_cons.mp h with e | h
      · exact Or.inl e
      · exact Or.inr h
theorem xnl_mem : ∀ {L : List (Nat × XV)}, xnl L = true → ∀ {q : Nat × XV}, q ∈ L → ∀ K : XK, ¬ (xv K q.2).category = 2
  | [], _, _, h, _ => by cases h
  | (i, .inl z) :: L, hn, q, h, K => by
    rcases List.mem_cons.mp h with e | h
    · subst e; intro q; cases q
    · exact xnl_mem (L := L) hn h K
  | (i, .inr (.inl z)) :: L, hn, q, h, K => by
    rcases List.mem_cons.mp h with e | h
    · subst e; intro q; cases q
    · exact xnl_mem (L := L) hn h K
  | (i, .inr (.inr z)) :: L, hn, q, h, K => by cases hn
theorem xL_mem {K : XK} {L : List (Nat × XV)} {q : Nat × XV} (h : q ∈ L) : (q.1, xv K q.2) ∈ xL K L := List.mem_map.mpr ⟨q, h, rfl⟩
theorem xlk {K : XK} {ls : Array Slot} {n : Nat} {L : List (Nat × XV)} {k : Nat} {v : XV} (hl : lv_has ls n (xL K L)) (hg : xget L k = some v) : ls[k]? = some (.val (xv K v)) := hl.2.2 _ (xL_mem (xget_mem hg))
/-- fewer locals, in any order -/
theorem xlsub {K : XK} {ls : Array Slot} {n : Nat} {L L' : List (Nat × XV)} (hl : lv_has ls n (xL K L)) (h : ∀ q ∈ L', q ∈ L) : lv_has ls n (xL K L') := by
  refine ⟨hl.1, hl.2.1, fun q hq => ?_⟩
  obtain ⟨q0, h0, rfl⟩ := List.mem_map.mp hq
  exact hl.2.2 _ (xL_mem (h q0 h0))
theorem xlset {K : XK} {ls : Array Slot} {n : Nat} {L : List (Nat × XV)} {k : Nat} {v : XV} (hn : xnl L = true)
    (hl : lv_has ls n ((k, xv K v) :: (xL K L).filter (fun q => !(q.1 == k) && !(q.1 + 1 == k && q.2.category == 2)))) : lv_has ls n (xL K (xset L k v)) := by
  refine ⟨hl.1, hl.2.1, fun q hq => ?_⟩
  obtain ⟨q0, h0, rfl⟩ := List.mem_map.mp hq
  rcases xins_mem h0 with e | h1
  · subst e
    exact hl.2.2 _ List.mem_cons_self
  · obtain ⟨h2, h3⟩ := xdel_mem h1
    refine hl.2.2 (q0.1, xv K q0.2) (List.mem_cons_of_mem _ (List.mem_filter.mpr ⟨xL_mem h2, ?_⟩))
    have h4 := xnl_mem hn h2 K
    simp [h3, h4]
section XRULES
variable {K : XK} {M : XM} {R : XR} {Q : Option XV → Nat → XH → Prop} {u : Nat × Nat × Nat} {pc : Nat} {L : List (Nat × XV)} {st : List XV} {h : XH}
theorem WX.locals {L' : List (Nat × XV)} (hs : ∀ q ∈ L', q ∈ L) (kk : WX K M R Q u pc L' st h) : WX K M R Q u pc L st h := by
  intro hmd p e s m args below meth c E H locs ls hH hP hS hl
  exact kk hmd p e s m args below meth c E H locs ls hH hP hS (xlsub hl hs)
theorem WX.heap {h' : XH} (hs : h' = h) (kk : WX K M R Q u pc L st h') : WX K M R Q u pc L st h := by subst hs; exact kk
theorem x_iload_n (p' : Nat) {k : Fin 4} {z : Int} (hd : decode M.1 pc = .ok (.iload_n k, 1)) (hg : xget L k.val = some (vi z)) (hp : pc + 1 = p') (kk : WX K M R Q u p' L (vi z :: st) h) : WX K M R Q u pc L (st) h := by
  subst hp
  intro hmd p e s m args below meth c E H locs ls hH hP hS hl
  exact lv_iload_n E.1 E.2.1 hd rfl (xlk hl hg) (kk hmd p e s m args below meth c E H locs ls hH hP hS hl)
theorem x_iload (p' : Nat) {k : Nat} {z : Int} (hd : decode M.1 pc = .ok (.iload k, 2)) (hg : xget L k = some (vi z)) (hp : pc + 2 = p') (kk : WX K M R Q u p' L (vi z :: st) h) : WX K M R Q u pc L (st) h := by
  subst hp
  intro hmd p e s m args below meth c E H locs ls hH hP hS hl
  exact lv_iload E.1 E.2.1 hd (xlk hl hg) (kk hmd p e s m args below meth c E H locs ls hH hP hS hl)
theorem x_aload_n (p' : Nat) {k : Fin 4} {z : Nat} (hd : decode M.1 pc = .ok (.aload_n k, 1)) (hg : xget L k.val = some (vr z)) (hp : pc + 1 = p') (kk : WX K M R Q u p' L (vr z :: st) h) : WX K M R Q u pc L (st) h := by
  subst hp
  intro hmd p e s m args below meth c E H locs ls hH hP hS hl
  exact lv_aload_n E.1 E.2.1 hd rfl (xlk hl hg) (kk hmd p e s m args below meth c E H locs ls hH hP hS hl)
theorem x_aload (p' : Nat) {k : Nat} {z : Nat} (hd : decode M.1 pc = .ok (.aload k, 2)) (hg : xget L k = some (vr z)) (hp : pc + 2 = p') (kk : WX K M R Q u p' L (vr z :: st) h) : WX K M R Q u pc L (st) h := by
  subst hp
  intro hmd p e s m args below meth c E H locs ls hH hP hS hl
  exact lv_aload E.1 E.2.1 hd (xlk hl hg) (kk hmd p e s m args below meth c E H locs ls hH hP hS hl)
theorem x_lload_n (p' : Nat) {k : Fin 4} {z : Int} (hd : decode M.1 pc = .ok (.lload_n k, 1)) (hg : xget L k.val = some (vl z)) (hp : pc + 1 = p') (kk : WX K M R Q u p' L (vl z :: st) h) : WX K M R Q u pc L (st) h := by
  subst hp
  intro hmd p e s m args below meth c E H locs ls hH hP hS hl
  exact lv_lload_n E.1 E.2.1 hd rfl (xlk hl hg) (kk hmd p e s m args below meth c E H locs ls hH hP hS hl)
theorem x_lload (p' : Nat) {k : Nat} {z : Int} (hd : decode M.1 pc = .ok (.lload k, 2)) (hg : xget L k = some (vl z)) (hp : pc + 2 = p') (kk : WX K M R Q u p' L (vl z :: st) h) : WX K M R Q u pc L (st) h := by
  subst hp
  intro hmd p e s m args below meth c E H locs ls hH hP hS hl
  exact lv_lload E.1 E.2.1 hd (xlk hl hg) (kk hmd p e s m args below meth c E H locs ls hH hP hS hl)
theorem x_iconst (p' : Nat) {z : Int} (hd : decode M.1 pc = .ok (.iconst z, 1)) (hp : pc + 1 = p') (kk : WX K M R Q u p' L (vi z :: st) h) : WX K M R Q u pc L (st) h := by
  subst hp
  intro hmd p e s m args below meth c E H locs ls hH hP hS hl
  exact lv_iconst E.1 E.2.1 hd rfl (kk hmd p e s m args below meth c E H locs ls hH hP hS hl)
theorem x_bipush (p' : Nat) {z : Int} (hd : decode M.1 pc = .ok (.bipush z, 2)) (hz : (Int8.ofInt z).toInt32 = Int32.ofInt z) (hp : pc + 2 = p') (kk : WX K M R Q u p' L (vi z :: st) h) : WX K M R Q u pc L (st) h := by
  subst hp
  intro hmd p e s m args below meth c E H locs ls hH hP hS hl
  exact lv_bipush E.1 E.2.1 hd hz (kk hmd p e s m args below meth c E H locs ls hH hP hS hl)
theorem x_sipush (p' : Nat) {z : Int} (hd : decode M.1 pc = .ok (.sipush z, 3)) (hz : (Int16.ofInt z).toInt32 = Int32.ofInt z) (hp : pc + 3 = p') (kk : WX K M R Q u p' L (vi z :: st) h) : WX K M R Q u pc L (st) h := by
  subst hp
  intro hmd p e s m args below meth c E H locs ls hH hP hS hl
  exact lv_sipush E.1 E.2.1 hd hz (kk hmd p e s m args below meth c E H locs ls hH hP hS hl)
theorem x_lconst (p' : Nat) {k : Fin 2} {z : Int} (hd : decode M.1 pc = .ok (.lconst k, 1)) (hz : Int64.ofNat (k : Nat) = Int64.ofInt z) (hp : pc + 1 = p') (kk : WX K M R Q u p' L (vl z :: st) h) : WX K M R Q u pc L (st) h := by
  subst hp
  intro hmd p e s m args below meth c E H locs ls hH hP hS hl
  exact lv_lconst E.1 E.2.1 hd hz (kk hmd p e s m args below meth c E H locs ls hH hP hS hl)
theorem x_ldc (p' : Nat) {z : Int} {i : Nat} (hd : decode M.1 pc = .ok (.ldc i, 2)) (hc : Cond.constant M.2.1.cls i (Int32.ofInt z) ∈ xTb) (hp : pc + 2 = p') (kk : WX K M R Q u p' L (vi z :: st) h) : WX K M R Q u pc L (st) h := by
  subst hp
  intro hmd p e s m args below meth c E H locs ls hH hP hS hl
  exact lv_ldc E.1 E.2.1 E.2.2.2.2.2.2.1 (E.2.2.2.2.2.2.2.1 _ hc) hd (kk hmd p e s m args below meth c E H locs ls hH hP hS hl)
theorem x_ldc2 (p' : Nat) {z : Int} {i : Nat} (hd : decode M.1 pc = .ok (.ldc2_w i, 3)) (hc : Cond.constantLong M.2.1.cls i (Int64.ofInt z) ∈ xTb) (hp : pc + 3 = p') (kk : WX K M R Q u p' L (vl z :: st) h) : WX K M R Q u pc L (st) h := by
  subst hp
  intro hmd p e s m args below meth c E H locs ls hH hP hS hl
  exact lv_ldc2 E.1 E.2.1 E.2.2.2.2.2.2.1 (E.2.2.2.2.2.2.2.1 _ hc) hd (kk hmd p e s m args below meth c E H locs ls hH hP hS hl)
theorem x_iadd (p' : Nat) {a b : Int} (hd : decode M.1 pc = .ok (.iadd, 1)) (hp : pc + 1 = p') (kk : WX K M R Q u p' L (vi (a + b) :: st) h) : WX K M R Q u pc L (vi b :: vi a :: st) h := by
  subst hp
  intro hmd p e s m args below meth c E H locs ls hH hP hS hl
  refine lv_iadd E.1 E.2.1 hd ?_
  have k2 := (kk hmd p e s m args below meth c E H locs ls hH hP hS hl)
  rw [List.map_cons, show xv K (vi (a + b)) = Value.int (Int32.ofInt (a + b)) from rfl, Int32.ofInt_add] at k2
  exact k2
theorem x_isub (p' : Nat) {a b : Int} (hd : decode M.1 pc = .ok (.isub, 1)) (hp : pc + 1 = p') (kk : WX K M R Q u p' L (vi (a - b) :: st) h) : WX K M R Q u pc L (vi b :: vi a :: st) h := by
  subst hp
  intro hmd p e s m args below meth c E H locs ls hH hP hS hl
  refine lv_isub E.1 E.2.1 hd ?_
  have k2 := (kk hmd p e s m args below meth c E H locs ls hH hP hS hl)
  rw [List.map_cons, show xv K (vi (a - b)) = Value.int (Int32.ofInt (a - b)) from rfl, Int32.ofInt_sub] at k2
  exact k2
theorem x_imul (p' : Nat) {a b : Int} (hd : decode M.1 pc = .ok (.imul, 1)) (hp : pc + 1 = p') (kk : WX K M R Q u p' L (vi (a * b) :: st) h) : WX K M R Q u pc L (vi b :: vi a :: st) h := by
  subst hp
  intro hmd p e s m args below meth c E H locs ls hH hP hS hl
  refine lv_imul E.1 E.2.1 hd ?_
  have k2 := (kk hmd p e s m args below meth c E H locs ls hH hP hS hl)
  rw [List.map_cons, show xv K (vi (a * b)) = Value.int (Int32.ofInt (a * b)) from rfl, Int32.ofInt_mul] at k2
  exact k2
theorem x_idiv (p' : Nat) {a b : Int} (ha : 0 ≤ a) (ha2 : a < 2147483648) (hb : 0 < b) (hb2 : b < 2147483648) (hd : decode M.1 pc = .ok (.idiv, 1)) (hp : pc + 1 = p') (kk : WX K M R Q u p' L (vi (a / b) :: st) h) : WX K M R Q u pc L (vi b :: vi a :: st) h := by
  subst hp
  intro hmd p e s m args below meth c E H locs ls hH hP hS hl
  have k2 := (kk hmd p e s m args below meth c E H locs ls hH hP hS hl)
  rw [List.map_cons, show xv K (vi (a / b)) = Value.int (Int32.ofInt (a / b)) from rfl, ← xdiv ha ha2 hb hb2] at k2
  exact lv_idiv E.1 E.2.1 hd (fun q => by rw [xz, xeq ⟨by omega, by omega⟩ xrg0] at q; omega) k2
theorem x_irem (p' : Nat) {a b : Int} (ha : 0 ≤ a) (ha2 : a < 2147483648) (hb : 0 < b) (hb2 : b < 2147483648) (hd : decode M.1 pc = .ok (.irem, 1)) (hp : pc + 1 = p') (kk : WX K M R Q u p' L (vi (a % b) :: st) h) : WX K M R Q u pc L (vi b :: vi a :: st) h := by
  subst hp
  intro hmd p e s m args below meth c E H locs ls hH hP hS hl
  have k2 := (kk hmd p e s m args below meth c E H locs ls hH hP hS hl)
  rw [List.map_cons, show xv K (vi (a % b)) = Value.int (Int32.ofInt (a % b)) from rfl, ← xrem ha ha2 hb hb2] at k2
  exact lv_irem E.1 E.2.1 hd (fun q => by rw [xz, xeq ⟨by omega, by omega⟩ xrg0] at q; omega) k2
theorem x_iand65535 (p' : Nat) {a : Int}  (hd : decode M.1 pc = .ok (.iand, 1)) (hp : pc + 1 = p') (kk : WX K M R Q u p' L (vi (a % 65536) :: st) h) : WX K M R Q u pc L (vi 65535 :: vi a :: st) h := by
  subst hp
  intro hmd p e s m args below meth c E H locs ls hH hP hS hl
  have k2 := (kk hmd p e s m args below meth c E H locs ls hH hP hS hl)
  rw [List.map_cons, show xv K (vi (a % 65536)) = Value.int (Int32.ofInt (a % 65536)) from rfl, ← xand65535 a] at k2
  exact lv_iand E.1 E.2.1 hd k2
theorem x_iand15 (p' : Nat) {a : Int}  (hd : decode M.1 pc = .ok (.iand, 1)) (hp : pc + 1 = p') (kk : WX K M R Q u p' L (vi (a % 16) :: st) h) : WX K M R Q u pc L (vi 15 :: vi a :: st) h := by
  subst hp
  intro hmd p e s m args below meth c E H locs ls hH hP hS hl
  have k2 := (kk hmd p e s m args below meth c E H locs ls hH hP hS hl)
  rw [List.map_cons, show xv K (vi (a % 16)) = Value.int (Int32.ofInt (a % 16)) from rfl, ← xand15 a] at k2
  exact lv_iand E.1 E.2.1 hd k2
theorem x_ixor (p' : Nat) {a b : Int}  (hd : decode M.1 pc = .ok (.ixor, 1)) (hp : pc + 1 = p') (kk : WX K M R Q u p' L (vi (xxor a b) :: st) h) : WX K M R Q u pc L (vi b :: vi a :: st) h := by
  subst hp
  intro hmd p e s m args below meth c E H locs ls hH hP hS hl
  have k2 := (kk hmd p e s m args below meth c E H locs ls hH hP hS hl)
  rw [List.map_cons, show xv K (vi (xxor a b)) = Value.int (Int32.ofInt (xxor a b)) from rfl, ← xxor_of a b] at k2
  exact lv_ixor E.1 E.2.1 hd k2
theorem x_ishr (p' : Nat) {a : Int} {k : Nat} (ha : xrg a) (hk : k < 32) (hd : decode M.1 pc = .ok (.ishr, 1)) (hp : pc + 1 = p') (kk : WX K M R Q u p' L (vi (a / (2 ^ k : Nat)) :: st) h) : WX K M R Q u pc L (vi (k : Int) :: vi a :: st) h := by
  subst hp
  intro hmd p e s m args below meth c E H locs ls hH hP hS hl
  have k2 := (kk hmd p e s m args below meth c E H locs ls hH hP hS hl)
  rw [List.map_cons, show xv K (vi (a / (2 ^ k : Nat))) = Value.int (Int32.ofInt (a / (2 ^ k : Nat))) from rfl, ← xshr ha hk] at k2
  exact lv_ishr E.1 E.2.1 hd k2
theorem x_ishl (p' : Nat) {a : Int} {k : Nat} (hk : k < 32) (hd : decode M.1 pc = .ok (.ishl, 1)) (hp : pc + 1 = p') (kk : WX K M R Q u p' L (vi (a * (2 ^ k : Nat)) :: st) h) : WX K M R Q u pc L (vi (k : Int) :: vi a :: st) h := by
  subst hp
  intro hmd p e s m args below meth c E H locs ls hH hP hS hl
  have k2 := (kk hmd p e s m args below meth c E H locs ls hH hP hS hl)
  rw [List.map_cons, show xv K (vi (a * (2 ^ k : Nat))) = Value.int (Int32.ofInt (a * (2 ^ k : Nat))) from rfl, ← xshl a hk] at k2
  exact lv_ishl E.1 E.2.1 hd k2
theorem x_lcmp (p' : Nat) {a b : Int} (ha : xrl a) (hb : xrl b) (hd : decode M.1 pc = .ok (.lcmp, 1)) (hp : pc + 1 = p') (kk : WX K M R Q u p' L (vi (if b < a then 1 else if a = b then 0 else -1) :: st) h) : WX K M R Q u pc L (vl b :: vl a :: st) h := by
  subst hp
  intro hmd p e s m args below meth c E H locs ls hH hP hS hl
  have k2 := (kk hmd p e s m args below meth c E H locs ls hH hP hS hl)
  rw [List.map_cons, show xv K (vi (if b < a then 1 else if a = b then 0 else -1)) = Value.int (Int32.ofInt (if b < a then 1 else if a = b then 0 else -1)) from rfl, ← xlcmp ha hb] at k2
  exact W.lcmp E.1 E.2.1 hd k2
theorem x_i2l (p' : Nat) {a : Int} (ha : xrg a) (hd : decode M.1 pc = .ok (.i2l, 1)) (hp : pc + 1 = p') (kk : WX K M R Q u p' L (vl a :: st) h) : WX K M R Q u pc L (vi a :: st) h := by
  subst hp
  intro hmd p e s m args below meth c E H locs ls hH hP hS hl
  exact lv_i2l E.1 E.2.1 hd (xlong ha) (kk hmd p e s m args below meth c E H locs ls hH hP hS hl)
theorem x_dupi (p' : Nat) {a : Int} (hd : decode M.1 pc = .ok (.dup, 1)) (hp : pc + 1 = p') (kk : WX K M R Q u p' L (vi a :: vi a :: st) h) : WX K M R Q u pc L (vi a :: st) h := by
  subst hp
  intro hmd p e s m args below meth c E H locs ls hH hP hS hl
  exact lv_dup E.1 E.2.1 hd rfl (kk hmd p e s m args below meth c E H locs ls hH hP hS hl)
theorem x_dupr (p' : Nat) {a : Nat} (hd : decode M.1 pc = .ok (.dup, 1)) (hp : pc + 1 = p') (kk : WX K M R Q u p' L (vr a :: vr a :: st) h) : WX K M R Q u pc L (vr a :: st) h := by
  subst hp
  intro hmd p e s m args below meth c E H locs ls hH hP hS hl
  exact lv_dup E.1 E.2.1 hd rfl (kk hmd p e s m args below meth c E H locs ls hH hP hS hl)
theorem x_dup2 (p' : Nat) {a : Int} {b : Nat} (hd : decode M.1 pc = .ok (.dup2, 1)) (hp : pc + 1 = p') (kk : WX K M R Q u p' L (vi a :: vr b :: vi a :: vr b :: st) h) : WX K M R Q u pc L (vi a :: vr b :: st) h := by
  subst hp
  intro hmd p e s m args below meth c E H locs ls hH hP hS hl
  exact lv_dup2_11 E.1 E.2.1 hd rfl rfl (kk hmd p e s m args below meth c E H locs ls hH hP hS hl)
theorem x_popi (p' : Nat) {a : Int} (hd : decode M.1 pc = .ok (.pop, 1)) (hp : pc + 1 = p') (kk : WX K M R Q u p' L (st) h) : WX K M R Q u pc L (vi a :: st) h := by
  subst hp
  intro hmd p e s m args below meth c E H locs ls hH hP hS hl
  exact lv_pop E.1 E.2.1 hd rfl (kk hmd p e s m args below meth c E H locs ls hH hP hS hl)
theorem x_goto {off : Int} (tgt : Nat) (hd : decode M.1 pc = .ok (.goto off, 3)) (ht : (pc : Int) + off = (tgt : Int)) (kk : WX K M R Q u tgt L (st) h) : WX K M R Q u pc L (st) h := by
  intro hmd p e s m args below meth c E H locs ls hH hP hS hl
  exact lv_goto E.1 E.2.1 hd ht (kk hmd p e s m args below meth c E H locs ls hH hP hS hl)
theorem x_istore_n (p' : Nat) {k : Fin 4} {z : Int} {L' : List (Nat × XV)} (hd : decode M.1 pc = .ok (.istore_n k, 1)) (hk : k.val < M.2.2.1) (hn : xnl L = true) (hL : xset L k.val (vi z) = L') (hp : pc + 1 = p') (kk : WX K M R Q u p' L' st h) : WX K M R Q u pc L (vi z :: st) h := by
  subst hp
  subst hL
  intro hmd p e s m args below meth c E H locs ls hH hP hS hl
  exact lv_istore_n E.1 E.2.1 hd rfl hl hk rfl (fun ls' hl' => kk hmd p e s m args below meth c E H locs ls' hH hP hS (xlset hn hl'))
theorem x_istore (p' : Nat) {k : Nat} {z : Int} {L' : List (Nat × XV)} (hd : decode M.1 pc = .ok (.istore k, 2)) (hk : k < M.2.2.1) (hn : xnl L = true) (hL : xset L k (vi z) = L') (hp : pc + 2 = p') (kk : WX K M R Q u p' L' st h) : WX K M R Q u pc L (vi z :: st) h := by
  subst hp
  subst hL
  intro hmd p e s m args below meth c E H locs ls hH hP hS hl
  exact lv_istore E.1 E.2.1 hd hl hk rfl (fun ls' hl' => kk hmd p e s m args below meth c E H locs ls' hH hP hS (xlset hn hl'))
theorem x_astore_n (p' : Nat) {k : Fin 4} {z : Nat} {L' : List (Nat × XV)} (hd : decode M.1 pc = .ok (.astore_n k, 1)) (hk : k.val < M.2.2.1) (hn : xnl L = true) (hL : xset L k.val (vr z) = L') (hp : pc + 1 = p') (kk : WX K M R Q u p' L' st h) : WX K M R Q u pc L (vr z :: st) h := by
  subst hp
  subst hL
  intro hmd p e s m args below meth c E H locs ls hH hP hS hl
  exact lv_astore_n E.1 E.2.1 hd rfl hl hk rfl (fun ls' hl' => kk hmd p e s m args below meth c E H locs ls' hH hP hS (xlset hn hl'))
theorem x_astore (p' : Nat) {k : Nat} {z : Nat} {L' : List (Nat × XV)} (hd : decode M.1 pc = .ok (.astore k, 2)) (hk : k < M.2.2.1) (hn : xnl L = true) (hL : xset L k (vr z) = L') (hp : pc + 2 = p') (kk : WX K M R Q u p' L' st h) : WX K M R Q u pc L (vr z :: st) h := by
  subst hp
  subst hL
  intro hmd p e s m args below meth c E H locs ls hH hP hS hl
  exact lv_astore E.1 E.2.1 hd hl hk rfl (fun ls' hl' => kk hmd p e s m args below meth c E H locs ls' hH hP hS (xlset hn hl'))
theorem x_iinc (p' : Nat) {k : Nat} {z d : Int} {L' : List (Nat × XV)} (hd : decode M.1 pc = .ok (.iinc k d, 3)) (hg : xget L k = some (vi z)) (hk : k < M.2.2.1) (hn : xnl L = true) (hL : xset L k (vi (z + d)) = L') (hp : pc + 3 = p') (kk : WX K M R Q u p' L' st h) : WX K M R Q u pc L st h := by
  subst hp
  subst hL
  intro hmd p e s m args below meth c E H locs ls hH hP hS hl
  obtain ⟨i, hi⟩ := List.getElem?_of_mem (xL_mem (K := K) (xget_mem hg))
  refine lv_iinc E.1 E.2.1 hd hl hi (v := Int32.ofInt (z + d)) (by rw [Int32.ofInt_add]) hk rfl (fun ls' hl' => ?_)
  exact kk hmd p e s m args below meth c E H locs ls' hH hP hS (xlset hn hl')
theorem x_icmp_eq (p' : Nat) {a b : Int} {off : Int} (tgt : Nat) (hd : decode M.1 pc = .ok (.if_icmp .eq off, 3)) (ht : (pc : Int) + off = (tgt : Int)) (ra : xrg a) (rb : xrg b) (hp : pc + 3 = p') (kt : a = b → WX K M R Q u tgt L st h) (kf : a ≠ b → WX K M R Q u p' L st h) : WX K M R Q u pc L (vi b :: vi a :: st) h := by
  subst hp
  intro hmd p e s m args below meth c E H locs ls hH hP hS hl
  exact lv_icmp_eq E.1 E.2.1 hd ht (fun q => kt ((xeq ra rb).mp q) hmd p e s m args below meth c E H locs ls hH hP hS hl) (fun q => kf (fun z => q ((xeq ra rb).mpr z)) hmd p e s m args below meth c E H locs ls hH hP hS hl)
theorem x_icmp_ne (p' : Nat) {a b : Int} {off : Int} (tgt : Nat) (hd : decode M.1 pc = .ok (.if_icmp .ne off, 3)) (ht : (pc : Int) + off = (tgt : Int)) (ra : xrg a) (rb : xrg b) (hp : pc + 3 = p') (kt : a ≠ b → WX K M R Q u tgt L st h) (kf : a = b → WX K M R Q u p' L st h) : WX K M R Q u pc L (vi b :: vi a :: st) h := by
  subst hp
  intro hmd p e s m args below meth c E H locs ls hH hP hS hl
  exact lv_icmp_ne E.1 E.2.1 hd ht (fun q => kt (fun z => q ((xeq ra rb).mpr z)) hmd p e s m args below meth c E H locs ls hH hP hS hl) (fun q => kf ((xeq ra rb).mp q) hmd p e s m args below meth c E H locs ls hH hP hS hl)
theorem x_icmp_lt (p' : Nat) {a b : Int} {off : Int} (tgt : Nat) (hd : decode M.1 pc = .ok (.if_icmp .lt off, 3)) (ht : (pc : Int) + off = (tgt : Int)) (ra : xrg a) (rb : xrg b) (hp : pc + 3 = p') (kt : a < b → WX K M R Q u tgt L st h) (kf : b ≤ a → WX K M R Q u p' L st h) : WX K M R Q u pc L (vi b :: vi a :: st) h := by
  subst hp
  intro hmd p e s m args below meth c E H locs ls hH hP hS hl
  exact lv_icmp_lt E.1 E.2.1 hd ht (fun q => kt ((xlt ra rb).mp q) hmd p e s m args below meth c E H locs ls hH hP hS hl) (fun q => kf (Int.not_lt.mp fun z => q ((xlt ra rb).mpr z)) hmd p e s m args below meth c E H locs ls hH hP hS hl)
theorem x_icmp_ge (p' : Nat) {a b : Int} {off : Int} (tgt : Nat) (hd : decode M.1 pc = .ok (.if_icmp .ge off, 3)) (ht : (pc : Int) + off = (tgt : Int)) (ra : xrg a) (rb : xrg b) (hp : pc + 3 = p') (kt : b ≤ a → WX K M R Q u tgt L st h) (kf : a < b → WX K M R Q u p' L st h) : WX K M R Q u pc L (vi b :: vi a :: st) h := by
  subst hp
  intro hmd p e s m args below meth c E H locs ls hH hP hS hl
  exact lv_icmp_ge E.1 E.2.1 hd ht (fun q => kt ((xle rb ra).mp q) hmd p e s m args below meth c E H locs ls hH hP hS hl) (fun q => kf (Int.not_le.mp fun z => q ((xle rb ra).mpr z)) hmd p e s m args below meth c E H locs ls hH hP hS hl)
theorem x_icmp_gt (p' : Nat) {a b : Int} {off : Int} (tgt : Nat) (hd : decode M.1 pc = .ok (.if_icmp .gt off, 3)) (ht : (pc : Int) + off = (tgt : Int)) (ra : xrg a) (rb : xrg b) (hp : pc + 3 = p') (kt : b < a → WX K M R Q u tgt L st h) (kf : a ≤ b → WX K M R Q u p' L st h) : WX K M R Q u pc L (vi b :: vi a :: st) h := by
  subst hp
  intro hmd p e s m args below meth c E H locs ls hH hP hS hl
  exact lv_icmp_gt E.1 E.2.1 hd ht (fun q => kt ((xlt rb ra).mp q) hmd p e s m args below meth c E H locs ls hH hP hS hl) (fun q => kf (Int.not_lt.mp fun z => q ((xlt rb ra).mpr z)) hmd p e s m args below meth c E H locs ls hH hP hS hl)
theorem x_icmp_le (p' : Nat) {a b : Int} {off : Int} (tgt : Nat) (hd : decode M.1 pc = .ok (.if_icmp .le off, 3)) (ht : (pc : Int) + off = (tgt : Int)) (ra : xrg a) (rb : xrg b) (hp : pc + 3 = p') (kt : a ≤ b → WX K M R Q u tgt L st h) (kf : b < a → WX K M R Q u p' L st h) : WX K M R Q u pc L (vi b :: vi a :: st) h := by
  subst hp
  intro hmd p e s m args below meth c E H locs ls hH hP hS hl
  exact lv_icmp_le E.1 E.2.1 hd ht (fun q => kt ((xle ra rb).mp q) hmd p e s m args below meth c E H locs ls hH hP hS hl) (fun q => kf (Int.not_le.mp fun z => q ((xle ra rb).mpr z)) hmd p e s m args below meth c E H locs ls hH hP hS hl)
theorem x_if_eq (p' : Nat) {a : Int} {off : Int} (tgt : Nat) (hd : decode M.1 pc = .ok (.ifCond .eq off, 3)) (ht : (pc : Int) + off = (tgt : Int)) (ra : xrg a) (hp : pc + 3 = p') (kt : a = 0 → WX K M R Q u tgt L st h) (kf : a ≠ 0 → WX K M R Q u p' L st h) : WX K M R Q u pc L (vi a :: st) h := by
  subst hp
  intro hmd p e s m args below meth c E H locs ls hH hP hS hl
  exact lv_if_eq E.1 E.2.1 hd ht (fun q => kt ((xeq ra xrg0).mp q) hmd p e s m args below meth c E H locs ls hH hP hS hl) (fun q => kf (fun z => q ((xeq ra xrg0).mpr z)) hmd p e s m args below meth c E H locs ls hH hP hS hl)
theorem x_if_ne (p' : Nat) {a : Int} {off : Int} (tgt : Nat) (hd : decode M.1 pc = .ok (.ifCond .ne off, 3)) (ht : (pc : Int) + off = (tgt : Int)) (ra : xrg a) (hp : pc + 3 = p') (kt : a ≠ 0 → WX K M R Q u tgt L st h) (kf : a = 0 → WX K M R Q u p' L st h) : WX K M R Q u pc L (vi a :: st) h := by
  subst hp
  intro hmd p e s m args below meth c E H locs ls hH hP hS hl
  exact lv_if_ne E.1 E.2.1 hd ht (fun q => kt (fun z => q ((xeq ra xrg0).mpr z)) hmd p e s m args below meth c E H locs ls hH hP hS hl) (fun q => kf ((xeq ra xrg0).mp q) hmd p e s m args below meth c E H locs ls hH hP hS hl)
theorem x_if_lt (p' : Nat) {a : Int} {off : Int} (tgt : Nat) (hd : decode M.1 pc = .ok (.ifCond .lt off, 3)) (ht : (pc : Int) + off = (tgt : Int)) (ra : xrg a) (hp : pc + 3 = p') (kt : a < 0 → WX K M R Q u tgt L st h) (kf : 0 ≤ a → WX K M R Q u p' L st h) : WX K M R Q u pc L (vi a :: st) h := by
  subst hp
  intro hmd p e s m args below meth c E H locs ls hH hP hS hl
  exact lv_if_lt E.1 E.2.1 hd ht (fun q => kt ((xlt ra xrg0).mp q) hmd p e s m args below meth c E H locs ls hH hP hS hl) (fun q => kf (Int.not_lt.mp fun z => q ((xlt ra xrg0).mpr z)) hmd p e s m args below meth c E H locs ls hH hP hS hl)
theorem x_if_ge (p' : Nat) {a : Int} {off : Int} (tgt : Nat) (hd : decode M.1 pc = .ok (.ifCond .ge off, 3)) (ht : (pc : Int) + off = (tgt : Int)) (ra : xrg a) (hp : pc + 3 = p') (kt : 0 ≤ a → WX K M R Q u tgt L st h) (kf : a < 0 → WX K M R Q u p' L st h) : WX K M R Q u pc L (vi a :: st) h := by
  subst hp
  intro hmd p e s m args below meth c E H locs ls hH hP hS hl
  exact lv_if_ge E.1 E.2.1 hd ht (fun q => kt ((xle xrg0 ra).mp q) hmd p e s m args below meth c E H locs ls hH hP hS hl) (fun q => kf (Int.not_le.mp fun z => q ((xle xrg0 ra).mpr z)) hmd p e s m args below meth c E H locs ls hH hP hS hl)
theorem x_if_gt (p' : Nat) {a : Int} {off : Int} (tgt : Nat) (hd : decode M.1 pc = .ok (.ifCond .gt off, 3)) (ht : (pc : Int) + off = (tgt : Int)) (ra : xrg a) (hp : pc + 3 = p') (kt : 0 < a → WX K M R Q u tgt L st h) (kf : a ≤ 0 → WX K M R Q u p' L st h) : WX K M R Q u pc L (vi a :: st) h := by
  subst hp
  intro hmd p e s m args below meth c E H locs ls hH hP hS hl
  exact lv_if_gt E.1 E.2.1 hd ht (fun q => kt ((xlt xrg0 ra).mp q) hmd p e s m args below meth c E H locs ls hH hP hS hl) (fun q => kf (Int.not_lt.mp fun z => q ((xlt xrg0 ra).mpr z)) hmd p e s m args below meth c E H locs ls hH hP hS hl)
theorem x_if_le (p' : Nat) {a : Int} {off : Int} (tgt : Nat) (hd : decode M.1 pc = .ok (.ifCond .le off, 3)) (ht : (pc : Int) + off = (tgt : Int)) (ra : xrg a) (hp : pc + 3 = p') (kt : a ≤ 0 → WX K M R Q u tgt L st h) (kf : 0 < a → WX K M R Q u p' L st h) : WX K M R Q u pc L (vi a :: st) h := by
  subst hp
  intro hmd p e s m args below meth c E H locs ls hH hP hS hl
  exact lv_if_le E.1 E.2.1 hd ht (fun q => kt ((xle ra xrg0).mp q) hmd p e s m args below meth c E H locs ls hH hP hS hl) (fun q => kf (Int.not_le.mp fun z => q ((xle ra xrg0).mpr z)) hmd p e s m args below meth c E H locs ls hH hP hS hl)
theorem x_tableIn {a : Int} {dflt lo hi : Int} {offs : Array Int} {len : Nat} {off : Int} (tgt : Nat) (hd : decode M.1 pc = .ok (.tableswitch dflt lo hi offs, len)) (ra : xrg a) (h1 : lo ≤ a) (h2 : a ≤ hi) (ho : offs[(a - lo).toNat]? = some off) (ht : (pc : Int) + off = (tgt : Int)) (kk : WX K M R Q u tgt L st h) : WX K M R Q u pc L (vi a :: st) h := by
  intro hmd p e s m args below meth c E H locs ls hH hP hS hl
  exact lv_tableIn E.1 E.2.1 hd (by rw [xI ra]; omega) (by rw [xI ra]; omega) (by rw [xI ra]; exact ho) ht (kk hmd p e s m args below meth c E H locs ls hH hP hS hl)
theorem x_tableOut {a : Int} {dflt lo hi : Int} {offs : Array Int} {len : Nat} (tgt : Nat) (hd : decode M.1 pc = .ok (.tableswitch dflt lo hi offs, len)) (ra : xrg a) (h1 : a < lo ∨ hi < a) (ht : (pc : Int) + dflt = (tgt : Int)) (kk : WX K M R Q u tgt L st h) : WX K M R Q u pc L (vi a :: st) h := by
  intro hmd p e s m args below meth c E H locs ls hH hP hS hl
  exact lv_tableOut E.1 E.2.1 hd (by rw [xI ra]; exact h1) ht (kk hmd p e s m args below meth c E H locs ls hH hP hS hl)
theorem x_lookup {a : Int} {dflt : Int} {ps : Array (Int × Int)} {len : Nat} {off : Int} (tgt : Nat) (hd : decode M.1 pc = .ok (.lookupswitch dflt ps, len)) (ra : xrg a) (hp : (ps.toList.zip (ps.toList.drop 1)).all (fun (a, next) => a.1 < next.1) = true) (ho : Op.lookupswitch.offset ps.toList dflt a = off) (ht : (pc : Int) + off = (tgt : Int)) (kk : WX K M R Q u tgt L st h) : WX K M R Q u pc L (vi a :: st) h := by
  intro hmd p e s m args below meth c E H locs ls hH hP hS hl
  exact lv_lookup E.1 E.2.1 hd hp (by rw [xI ra]; exact ho) ht (kk hmd p e s m args below meth c E H locs ls hH hP hS hl)
end XRULES
end
section
/-! writing a field, the heap as large as it was -/
section XPUT
variable {p : Program} {l : Launch} {e : Env} {Rm : Room} {s : State} {m : MethodId} {args : Array Value} {below : List Frame} {meth : Method} {c : Code} {H : Heap} {locs : List Loc} {cells slots : Nat} {Qs : State → Prop}
variable {cc : ByteArray} {pc : Nat} {ls : Array Slot} {rest : List Value} {D : va_G} {cl : List vw_C} {A : Nat → Prop} {tys : List (ClassId × FieldType)} {ws : va_W} {H0 : Heap}
theorem xputS {own C : String} {T : u_T} {N ci index : Nat} (hexec : p.tables.exec = Jvm.exec) (hb : c.code = cc) (hts : ∀ w ∈ xTb, w.before args s = true) (hin : ∀ w ∈ u_ws C T N, w ∈ xTb) (ty0 : Nat → FieldType) (hty : ∀ k, k < N → parseFieldDescriptor (T k).2.2.1 = some (ty0 k)) (hnm : ∀ a, a < N → ∀ b, b < N → a ≠ b → (T a).2.1 ≠ (T b).2.1) (hown : s.vm.findClass own = some m.cls) (hK : va_K D cl tys s) (hP : va_P D cl ws H) (hD : va_D A ws) (hS0 : va_S A H0 H locs) {c0 a : Nat} {fs : List Value} (he : ws[c0]? = some (a, .inr (ci, fs))) (hc : cl[ci]? = some (C, T, N)) {k : Nat} (hk : k < N) (hlink : (Cond.fieldLink own index C (T k).2.1 (T k).2.2.1).before args s = true) (hTk : (T k).1 = C) (hfin : (T k).2.2.2 = false) {v : Value} (hn : narrow (ty0 k) v = v) (hfit : fits (ty0 k) v = true) (hlen : k < fs.length) (hdg : decode cc pc = .ok (.putfield index, 3))
    (kk : ∀ (H1 : Heap) (locs1 : List Loc), H1.size = H.size → va_P D cl (ws.set c0 (a, .inr (ci, fs.set k v))) H1 → va_S A H0 H1 locs1 → W p l e Rm s m args below meth c H1 locs1 cells slots Qs (F0 m (pc + 3) ls rest)) : W p l e Rm s m args below meth c H locs cells slots Qs (F0 m pc ls (v :: .ref a :: rest)) := by
  have hap := va_apart (own := own) hts hin ty0 hty hnm hK hc
  obtain ⟨r, h1, cell, q1, q2, q3, q4⟩ := hP c0 _ he
  cases h1.symm.trans hc
  obtain ⟨hSl, hfc, kC, hkC, hkind⟩ := hK.1 ci _ hc
  obtain ⟨cf, kf, fi, f, hi, hsl⟩ := hSl k hk
  have hi2 : s.fieldFound? C (T k).2.1 (T k).2.2.1 = some (cf, kf, fi, f) := by
    have hi3 := hi
    rw [hTk] at hi3
    exact hi3
  have hlay := hts _ (hin _ (u_in_lay hk))
  unfold u_lay at hlay
  have hst := (u_facts hfc hkC (u_lays hts hin hk) hi).1
  rw [if_neg (by rw [hfin]; decide)] at hlay
  have h6 := u_store hfc hkC hkind hlay hi (hty k hk) hn hfit
  refine W.putK hexec hb (f := f) ⟨hown, hlink, ⟨_, _, _, hi2⟩, hst⟩ (by rw [q2]; exact h6) q1 q3 (by rw [hsl]; exact k2_hasslot (q4 k hk)) rfl rfl hdg fun H' e1 e2 e3 => ?_
  rw [hsl] at e1 ⊢
  exact kk H' _ e2 (hP.set hD he ⟨_, hc, t_OB.to (V := updV (vp_V fs) k v) ⟨_, e1, q2, q3, t_set q4 hap hk v⟩ (fun j _ => vp_updV_set hlen v j)⟩ e3) (hS0.put e2 e3 (hD.2 c0 _ he))
theorem xputN {own C host : String} {T : u_T} {N ci index : Nat} (hexec : p.tables.exec = Jvm.exec) (hb : c.code = cc) (hts : ∀ w ∈ xTb, w.before args s = true) (hin : ∀ w ∈ u_ws C T N, w ∈ xTb) (ty0 : Nat → FieldType) (hty : ∀ k, k < N → parseFieldDescriptor (T k).2.2.1 = some (ty0 k)) (hnm : ∀ a, a < N → ∀ b, b < N → a ≠ b → (T a).2.1 ≠ (T b).2.1) (hown : s.vm.findClass own = some m.cls) (hK : va_K D cl tys s) (hP : va_P D cl ws H) (hD : va_D A ws) (hS0 : va_S A H0 H locs) {c0 a : Nat} {fs : List Value} (he : ws[c0]? = some (a, .inr (ci, fs))) (hc : cl[ci]? = some (C, T, N)) {k : Nat} (hk : k < N) (hlink : (Cond.fieldLinkNest own index C (T k).2.1 (T k).2.2.1 host).before args s = true) (hTk : (T k).1 = C) (hfin : (T k).2.2.2 = false) {v : Value} (hn : narrow (ty0 k) v = v) (hfit : fits (ty0 k) v = true) (hlen : k < fs.length) (hdg : decode cc pc = .ok (.putfield index, 3))
    (kk : ∀ (H1 : Heap) (locs1 : List Loc), H1.size = H.size → va_P D cl (ws.set c0 (a, .inr (ci, fs.set k v))) H1 → va_S A H0 H1 locs1 → W p l e Rm s m args below meth c H1 locs1 cells slots Qs (F0 m (pc + 3) ls rest)) : W p l e Rm s m args below meth c H locs cells slots Qs (F0 m pc ls (v :: .ref a :: rest)) := by
  have hap := va_apart (own := own) hts hin ty0 hty hnm hK hc
  obtain ⟨r, h1, cell, q1, q2, q3, q4⟩ := hP c0 _ he
  cases h1.symm.trans hc
  obtain ⟨hSl, hfc, kC, hkC, hkind⟩ := hK.1 ci _ hc
  obtain ⟨cf, kf, fi, f, hi, hsl⟩ := hSl k hk
  have hi2 : s.fieldFound? C (T k).2.1 (T k).2.2.1 = some (cf, kf, fi, f) := by
    have hi3 := hi
    rw [hTk] at hi3
    exact hi3
  have hlay := hts _ (hin _ (u_in_lay hk))
  unfold u_lay at hlay
  have hst := (u_facts hfc hkC (u_lays hts hin hk) hi).1
  rw [if_neg (by rw [hfin]; decide)] at hlay
  have h6 := u_store hfc hkC hkind hlay hi (hty k hk) hn hfit
  refine va_WputK hexec hb (f := f) hown hlink hi2 hst (by rw [q2]; exact h6) q1 q3 (by rw [hsl]; exact k2_hasslot (q4 k hk)) rfl rfl hdg fun H' e1 e2 e3 => ?_
  rw [hsl] at e1 ⊢
  exact kk H' _ e2 (hP.set hD he ⟨_, hc, t_OB.to (V := updV (vp_V fs) k v) ⟨_, e1, q2, q3, t_set q4 hap hk v⟩ (fun j _ => vp_updV_set hlen v j)⟩ e3) (hS0.put e2 e3 (hD.2 c0 _ he))
theorem xputF {own C : String} {T : u_T} {N ci index : Nat} (hexec : p.tables.exec = Jvm.exec) (hb : c.code = cc) (hts : ∀ w ∈ xTb, w.before args s = true) (hin : ∀ w ∈ u_ws C T N, w ∈ xTb) (ty0 : Nat → FieldType) (hty : ∀ k, k < N → parseFieldDescriptor (T k).2.2.1 = some (ty0 k)) (hnm : ∀ a, a < N → ∀ b, b < N → a ≠ b → (T a).2.1 ≠ (T b).2.1) (hown : s.vm.findClass own = some m.cls) (hK : va_K D cl tys s) (hP : va_P D cl ws H) (hD : va_D A ws) (hS0 : va_S A H0 H locs) {c0 a : Nat} {fs : List Value} (he : ws[c0]? = some (a, .inr (ci, fs))) (hc : cl[ci]? = some (C, T, N)) {k : Nat} (hk : k < N) (hlink : (Cond.fieldLink own index C (T k).2.1 (T k).2.2.1).before args s = true) (hTk : (T k).1 = C) (hfin : (T k).2.2.2 = true) (hinit : meth.name = "<init>") (hdecl : C = own) {v : Value} (hn : narrow (ty0 k) v = v) (hfit : fits (ty0 k) v = true) (hlen : k < fs.length) (hdg : decode cc pc = .ok (.putfield index, 3))
    (kk : ∀ (H1 : Heap) (locs1 : List Loc), H1.size = H.size → va_P D cl (ws.set c0 (a, .inr (ci, fs.set k v))) H1 → va_S A H0 H1 locs1 → W p l e Rm s m args below meth c H1 locs1 cells slots Qs (F0 m (pc + 3) ls rest)) : W p l e Rm s m args below meth c H locs cells slots Qs (F0 m pc ls (v :: .ref a :: rest)) := by
  have hap := va_apart (own := own) hts hin ty0 hty hnm hK hc
  obtain ⟨r, h1, cell, q1, q2, q3, q4⟩ := hP c0 _ he
  cases h1.symm.trans hc
  obtain ⟨hSl, hfc, kC, hkC, hkind⟩ := hK.1 ci _ hc
  obtain ⟨cf, kf, fi, f, hi, hsl⟩ := hSl k hk
  have hi2 : s.fieldFound? C (T k).2.1 (T k).2.2.1 = some (cf, kf, fi, f) := by
    have hi3 := hi
    rw [hTk] at hi3
    exact hi3
  have hlay := hts _ (hin _ (u_in_lay hk))
  unfold u_lay at hlay
  have hst := (u_facts hfc hkC (u_lays hts hin hk) hi).1
  rw [if_pos hfin] at hlay
  have hcf : m.cls = cf := by
    obtain ⟨_, _, c', _, _, _, -, -, hf', -, -, -, hown2, -⟩ := Cond.laysFinal_spec hlay
    have e1 : c' = cf := by have := hi.symm.trans hf'; simp at this; exact this.1.symm
    rw [hTk, hdecl] at hown2
    rw [← e1]
    exact Option.some.inj (hown.symm.trans hown2)
  have h6 := u_fits hfc hkC hkind (Or.inr hlay) hi (hty k hk) hn hfit
  refine W.putFinK hexec hb hown hlink hi2 hst hcf hinit (by rw [q2]; exact h6) q1 q3 (by rw [hsl]; exact k2_hasslot (q4 k hk)) rfl rfl hdg fun H' e1 e2 e3 => ?_
  rw [hsl] at e1 ⊢
  exact kk H' _ e2 (hP.set hD he ⟨_, hc, t_OB.to (V := updV (vp_V fs) k v) ⟨_, e1, q2, q3, t_set q4 hap hk v⟩ (fun j _ => vp_updV_set hlen v j)⟩ e3) (hS0.put e2 e3 (hD.2 c0 _ he))
end XPUT
end
section
/-! rows of the small machine: cells -/
/-- what the names say of a class -/
def xCl (ci : Nat) : Prop := ∃ (C : String) (T : u_T) (N : Nat), vwCl[ci]? = some (C, T, N) ∧ ci < 10 ∧ (∀ w ∈ u_ws C T N, w ∈ xTb) ∧ (∀ a, a < N → ∀ b, b < N → a ≠ b → (T a).2.1 ≠ (T b).2.1) ∧ (∀ k, k < N → parseFieldDescriptor (T k).2.2.1 = some (xFT ci k))
/-- entry idx of own's file is field k of class ci -/
def xLF (own : String) (idx ci k : Nat) : Prop := ∃ (C : String) (T : u_T) (N : Nat), vwCl[ci]? = some (C, T, N) ∧ k < N ∧ (∀ w ∈ u_ws C T N, w ∈ xTb) ∧ (T k).1 = C ∧ (Cond.fieldLink own idx C (T k).2.1 (T k).2.2.1 ∈ xTb ∨ ∃ host, Cond.fieldLinkNest own idx C (T k).2.1 (T k).2.2.1 host ∈ xTn)
theorem xLF.inj {own : String} {idx ci k : Nat} (h : xLF own idx ci k) {C : String} {T : u_T} {N : Nat} (e : vwCl[ci]? = some (C, T, N)) : k < N ∧ (∀ w ∈ u_ws C T N, w ∈ xTb) ∧ (T k).1 = C ∧ (Cond.fieldLink own idx C (T k).2.1 (T k).2.2.1 ∈ xTb ∨ ∃ host, Cond.fieldLinkNest own idx C (T k).2.1 (T k).2.2.1 host ∈ xTn) := by
  obtain ⟨C', T', N', e', h'⟩ := h
  have := e.symm.trans e'
  cases this
  exact h'
theorem xe_obj (K : XK) {t : Nat × Nat} (row : Int → Int) (h : t.1 < 10) : xe K t row = .inr (t.1, (List.range t.2).map fun (k : Nat) => if xFS t.1 k = 2 then va_rf (xro K (row k)) else .int (Int32.ofInt (row k))) := by
  unfold xe
  rw [if_pos h]
theorem xe_arr (K : XK) (a N : Nat) (row : Int → Int) (h : ¬ a < 10) (h2 : a < 13) : xe K (a, N) row = .inl (K.2.2.2.1 (a - 10), N, .inl fun (j : Nat) => Int32.ofInt (row j)) := by
  unfold xe
  rw [if_neg h, if_pos h2]
theorem xe_ref (K : XK) (a N : Nat) (row : Int → Int) (h : ¬ a < 13) : xe K (a, N) row = .inl (K.2.2.2.1 (a - 10), N, .inr (.inr (.inr (.inr fun (j : Nat) => xro K (row j))))) := by
  unfold xe
  rw [if_neg (fun q => h (Nat.lt_of_lt_of_le q (by decide))), if_neg h]
section XHEAP
variable {K : XK} {M : XM} {R : XR} {Q : Option XV → Nat → XH → Prop} {u : Nat × Nat × Nat} {pc : Nat} {L : List (Nat × XV)} {st : List XV} {h : XH}
/-- the machine's side of a getfield -/
theorem x_getG {c0 k ci N i : Nat} {v : XV} (hd : decode M.1 pc = .ok (.getfield i, 3)) (hl : xLF M.2.1.cls i ci k) (hT : xTY c0 = (ci, N)) (hci : ci < 10) (hN : (vwCl[ci]?).map (fun q => q.2.2) = some N) (hc : c0 < u.1)
    (hv : (if xFS ci k = 2 then va_rf (xro K (h c0 k)) else .int (Int32.ofInt (h c0 k))) = xv K v) (had : xad K c0 = K.2.2.1 + c0)
    (kk : WX K M R Q u (pc + 3) L (v :: st) h) : WX K M R Q u pc L (vr c0 :: st) h := by
  intro hmd p e s m args below meth c E H locs ls hH hP hS hlv
  have k2 := kk hmd p e s m args below meth c E H locs ls hH hP hS hlv
  cases hq : vwCl[ci]? with
  | none => rw [hq] at hN; cases hN
  | some q =>
    obtain ⟨C, T, N'⟩ := q
    rw [hq] at hN
    cases hN
    obtain ⟨hk, hin, hTk, hlink⟩ := hl.inj hq
    have he : (xw K u.1 h)[c0]? = some (K.2.2.1 + c0, .inr (ci, (List.range N').map fun (k : Nat) => if xFS ci k = 2 then va_rf (xro K (h c0 k)) else .int (Int32.ofInt (h c0 k)))) := by
      rw [xw_get hc, hT, xe_obj K _ hci]
    have hv2 : ((List.range N').map fun (k : Nat) => if xFS ci k = 2 then va_rf (xro K (h c0 k)) else .int (Int32.ofInt (h c0 k)))[k]? = some (xv K v) := by
      rw [List.getElem?_map, List.getElem?_range hk, Option.map_some, hv]
    show W p K.1 e (xrm R) s m args below meth c H locs u.2.1 u.2.2 _ (F0 m pc ls (.ref (xad K c0) :: st.map (xv K)))
    rw [had]
    rcases hlink with hlink | ⟨host, hlink⟩
    · exact va_get (C := C) (T := T) (N := N') (ref := C) E.1 E.2.1 E.2.2.2.2.2.2.2.1 hin E.2.2.2.2.2.2.1 E.2.2.2.2.2.2.2.2.1.1 hP c0 he hq k hk (E.2.2.2.2.2.2.2.1 _ hlink) (by rw [hTk]; exact fun _ h9 => h9) hv2 hd k2
    · exact va_getN (C := C) (T := T) (N := N') (ref := C) E.1 E.2.1 E.2.2.2.2.2.2.2.1 hin E.2.2.2.2.2.2.1 E.2.2.2.2.2.2.2.2.1.1 hP c0 he hq k hk (E.2.2.2.2.2.2.2.2.1.nest hlink args) (by rw [hTk]; exact fun _ h9 => h9) hv2 hd k2
theorem xad_lt {c0 : Nat} (h : c0 < 1000000) : xad K c0 = K.2.2.1 + c0 := by unfold xad; rw [if_pos h]
theorem xN_of {ci N : Nat} (h : [6, 4, 2, 16, 4, 17, 4, 4, 7, 31][ci]? = some N) : (vwCl[ci]?).map (fun q => q.2.2) = some N := by
  have : vwCl.map (fun q => q.2.2) = [6, 4, 2, 16, 4, 17, 4, 4, 7, 31] := rfl
  rw [← this, List.getElem?_map] at h
  exact h
/-- a number or truth value out of a field -/
theorem x_getf {c0 k ci N i : Nat} (hd : decode M.1 pc = .ok (.getfield i, 3)) (hl : xLF M.2.1.cls i ci k) (hT : xTY c0 = (ci, N)) (hs : xFS ci k = 0 ∨ xFS ci k = 1) (hN : ci < 10 ∧ [6, 4, 2, 16, 4, 17, 4, 4, 7, 31][ci]? = some N) (hc : c0 < u.1 ∧ c0 < 1000000)
    (kk : WX K M R Q u (pc + 3) L (vi (h c0 k) :: st) h) : WX K M R Q u pc L (vr c0 :: st) h :=
  x_getG hd hl hT hN.1 (xN_of hN.2) hc.1 (by rw [if_neg (by rcases hs with q | q <;> rw [q] <;> decide)]; rfl) (xad_lt hc.2) kk
/-- a reference out of a field, not yet for good -/
theorem x_getr0 {c0 k ci N i r : Nat} (hd : decode M.1 pc = .ok (.getfield i, 3)) (hl : xLF M.2.1.cls i ci k) (hT : xTY c0 = (ci, N)) (hs : xFS ci k = 2) (hN : ci < 10 ∧ [6, 4, 2, 16, 4, 17, 4, 4, 7, 31][ci]? = some N) (hc : c0 < u.1 ∧ c0 < 1000000) (hr : h c0 k = (r : Int) + 1) (hr2 : r < 1000000)
    (kk : WX K M R Q u (pc + 3) L (vr r :: st) h) : WX K M R Q u pc L (vr c0 :: st) h :=
  x_getG hd hl hT hN.1 (xN_of hN.2) hc.1 (by
    rw [if_pos hs, hr]
    unfold xro
    rw [if_neg (by omega), show ((r : Int) + 1).toNat - 1 = r by omega]
    show Value.ref _ = Value.ref (xad K r)
    rw [xad_lt hr2]) (xad_lt hc.2) kk
theorem WX.md (kk : (R.1 = true → M.2.2.2.2 ≤ u.1 ∧ xXS u.1 h) → WX K M R Q u pc L st h) : WX K M R Q u pc L st h := fun hmd => kk hmd hmd
/-- a reference out of a field, for good -/
theorem x_getr {c0 k ci N i r : Nat} (hd : decode M.1 pc = .ok (.getfield i, 3)) (hl : xLF M.2.1.cls i ci k) (hT : xTY c0 = (ci, N)) (hs : xFS ci k = 2) (hN : ci < 10 ∧ [6, 4, 2, 16, 4, 17, 4, 4, 7, 31][ci]? = some N) (hc : c0 < M.2.2.2.2 ∧ c0 < 1000000) (hr : xRF c0 k = r + 1) (hr2 : r < 1000000) (hmd : R.1 = true)
    (kk : WX K M R Q u (pc + 3) L (vr r :: st) h) : WX K M R Q u pc L (vr c0 :: st) h := by
  refine WX.md fun md => ?_
  obtain ⟨h1, h2⟩ := md hmd
  have hlt : c0 < u.1 := Nat.lt_of_lt_of_le hc.1 h1
  exact x_getr0 hd hl hT hs hN ⟨hlt, hc.2⟩ (by rw [h2 c0 k hlt (by rw [hr]; omega), hr]; rfl) hr2 kk
/-- the machine's side of a putfield that isn't final -/
theorem x_putf {c0 k ci N i : Nat} {z : Int} (hd : decode M.1 pc = .ok (.putfield i, 3)) (hl : xLF M.2.1.cls i ci k) (hcl : xCl ci) (hT : xTY c0 = (ci, N)) (hs : xFS ci k = 0 ∨ (xFS ci k = 1 ∧ (z = 0 ∨ z = 1))) (hN : ci < 10 ∧ [6, 4, 2, 16, 4, 17, 4, 4, 7, 31][ci]? = some N) (hfin : (vwCl[ci]?).map (fun q => (q.2.1 k).2.2.2) = some false) (hc : c0 < u.1 ∧ c0 < 1000000) (hRF : xRF c0 k = 0)
    (kk : WX K M R Q u (pc + 3) L st (hset h c0 k z)) : WX K M R Q u pc L (vi z :: vr c0 :: st) h := by
  intro hmd p e s m args below meth c E H locs ls hH hP hS hlv
  have hmd2 : R.1 = true → M.2.2.2.2 ≤ u.1 ∧ xXS u.1 (hset h c0 k z) := fun q => ⟨(hmd q).1, fun c' k' h1 h2 => by
    unfold hset
    rw [if_neg (fun q2 => by obtain ⟨a, b⟩ := q2; subst a; rw [Int.natCast_inj] at b; subst b; exact h2 hRF)]
    exact (hmd q).2 c' k' h1 h2⟩
  have k2 := fun H locs hH hP hS => kk hmd2 p e s m args below meth c E H locs ls hH hP hS hlv
  obtain ⟨C, T, N', hq, -, hin, hnm, hty⟩ := hcl
  obtain ⟨hk, -, hTk, hlink⟩ := hl.inj hq
  have hN2 := xN_of hN.2
  rw [hq] at hN2 hfin
  have hN3 : N' = N := Option.some.inj hN2
  have hfin2 : (T k).2.2.2 = false := Option.some.inj hfin
  subst hN3
  have he : (xw K u.1 h)[c0]? = some (K.2.2.1 + c0, .inr (ci, (List.range N').map fun (k : Nat) => if xFS ci k = 2 then va_rf (xro K (h c0 k)) else .int (Int32.ofInt (h c0 k)))) := by
    rw [xw_get hc.1, hT, xe_obj K _ hN.1]
  have hset' : (xw K u.1 h).set c0 (K.2.2.1 + c0, .inr (ci, ((List.range N').map fun (k : Nat) => if xFS ci k = 2 then va_rf (xro K (h c0 k)) else .int (Int32.ofInt (h c0 k))).set k (.int (Int32.ofInt z)))) = xw K u.1 (hset h c0 k z) := by
    refine xw_set hc.1 ?_
    rw [hT, xe_obj K _ hN.1]
    congr 2
    apply List.ext_getElem?
    intro j
    by_cases hj : j < N'
    · rw [List.getElem?_map, List.getElem?_range hj, Option.map_some]
      by_cases ejk : j = k
      · subst ejk
        rw [List.getElem?_set_self (by rw [List.length_map, List.length_range]; exact hj)]
        have e1 : hset h c0 (j : Int) z c0 j = z := by unfold hset; rw [if_pos ⟨rfl, rfl⟩]
        rw [e1, if_neg (by rcases hs with q | q; rw [q]; decide; rw [q.1]; decide)]
      · rw [List.getElem?_set_ne (Ne.symm ejk), List.getElem?_map, List.getElem?_range hj, Option.map_some]
        have e1 : hset h c0 (k : Int) z c0 j = h c0 j := by unfold hset; rw [if_neg (fun q => ejk (Int.natCast_inj.mp q.2))]
        rw [e1]
    · rw [List.getElem?_eq_none (by rw [List.length_set, List.length_map, List.length_range]; omega), List.getElem?_eq_none (by rw [List.length_map, List.length_range]; omega)]
  have hft : (xFT ci k = .int ∧ xFS ci k = 0) ∨ (xFT ci k = .boolean ∧ (z = 0 ∨ z = 1)) := by
    unfold xFS at hs ⊢
    cases ht : xFT ci k <;> rw [ht] at hs <;> simp [xsort] at hs ⊢
    exact hs
  have hna : narrow (xFT ci k) (.int (Int32.ofInt z)) = .int (Int32.ofInt z) := by
    rcases hft with ⟨q, -⟩ | ⟨q, q2⟩
    · rw [q]; rfl
    · rw [q]; rcases q2 with q2 | q2 <;> subst q2 <;> rfl
  have hfi : fits (xFT ci k) (.int (Int32.ofInt z)) = true := by
    rcases hft with ⟨q, -⟩ | ⟨q, q2⟩
    · rw [q]; rfl
    · rw [q]; rcases q2 with q2 | q2 <;> subst q2 <;> rfl
  show W p K.1 e (xrm R) s m args below meth c H locs u.2.1 u.2.2 _ (F0 m pc ls (.int (Int32.ofInt z) :: .ref (xad K c0) :: st.map (xv K)))
  rw [xad_lt hc.2]
  rcases hlink with hlink | ⟨host, hlink⟩
  · refine xputS (C := C) (T := T) (N := N') E.1 E.2.1 E.2.2.2.2.2.2.2.1 hin (xFT ci) hty hnm E.2.2.2.2.2.2.1 E.2.2.2.2.2.2.2.2.1.1 hP xw_D hS he hq hk (E.2.2.2.2.2.2.2.1 _ hlink) hTk hfin2 hna hfi (by rw [List.length_map, List.length_range]; exact hk) hd (fun H1 locs1 hz1 hP1 hS1 => ?_)
    rw [hset'] at hP1
    exact k2 H1 locs1 (hz1.trans hH) hP1 hS1
  · refine xputN (C := C) (T := T) (N := N') E.1 E.2.1 E.2.2.2.2.2.2.2.1 hin (xFT ci) hty hnm E.2.2.2.2.2.2.1 E.2.2.2.2.2.2.2.2.1.1 hP xw_D hS he hq hk (E.2.2.2.2.2.2.2.2.1.nest hlink args) hTk hfin2 hna hfi (by rw [List.length_map, List.length_range]; exact hk) hd (fun H1 locs1 hz1 hP1 hS1 => ?_)
    rw [hset'] at hP1
    exact k2 H1 locs1 (hz1.trans hH) hP1 hS1
end XHEAP
end
section
/-! rows of the small machine: fields by their links, arrays, ends -/
def xNs : List Nat := [6, 4, 2, 16, 4, 17, 4, 4, 7, 31]
def xLi (own : String) (idx ci k N : Nat) : Prop := xLF own idx ci k ∧ xFS ci k = 0 ∧ (ci < 10 ∧ xNs[ci]? = some N) ∧ (vwCl[ci]?).map (fun q => (q.2.1 k).2.2.2) = some false ∧ xCl ci
def xLz (own : String) (idx ci k N : Nat) : Prop := xLF own idx ci k ∧ xFS ci k = 1 ∧ (ci < 10 ∧ xNs[ci]? = some N) ∧ (vwCl[ci]?).map (fun q => (q.2.1 k).2.2.2) = some false ∧ xCl ci
def xLr (own : String) (idx ci k N : Nat) : Prop := xLF own idx ci k ∧ xFS ci k = 2 ∧ (ci < 10 ∧ xNs[ci]? = some N) ∧ (vwCl[ci]?).map (fun q => (q.2.1 k).2.2.2) = some true ∧ xCl ci
theorem xRF_arr {c N a : Nat} (h : xTY c = (a, N)) (ha : a = 10 ∨ a = 11 ∨ a = 12) (j : Nat) : xRF c j = 0 := by
  have h1 : (xTY c).1 = a := by rw [h]
  unfold xRF
  by_cases c8 : c < 8
  · rw [if_pos c8]
    have : c = 0 ∨ c = 1 ∨ c = 2 ∨ c = 3 ∨ c = 4 ∨ c = 5 ∨ c = 6 ∨ c = 7 := by omega
    rcases this with e | e | e | e | e | e | e | e <;> subst e <;> first | rfl | (exfalso; revert h1; show ¬ (_ = a); rcases ha with q | q | q <;> subst q <;> decide)
  · rw [if_neg c8]
    by_cases c2 : c < 192
    · rw [if_pos c2, h1]
      rcases ha with q | q | q <;> subst q <;> rfl
    · rw [if_neg c2]
      have key : ∀ x, (xTY x).1 ≠ 10 → (xTY x).1 ≠ 11 → (xTY x).1 ≠ 12 → c = x → False := fun x h10 h11 h12 e => by
        subst e
        rcases ha with q | q | q <;> subst q
        · exact h10 h1
        · exact h11 h1
        · exact h12 h1
      rw [if_neg (fun q => key 192 (by decide) (by decide) (by decide) q), if_neg (fun q => key 194 (by decide) (by decide) (by decide) q)]
      by_cases c3 : c < 246
      · rw [if_pos c3]
      · rw [if_neg c3, if_neg (fun q => key 246 (by decide) (by decide) (by decide) q), if_neg (fun q => key 254 (by decide) (by decide) (by decide) q), if_neg (fun q => key 255 (by decide) (by decide) (by decide) q), if_neg (fun q => key 259 (by decide) (by decide) (by decide) q)]
theorem xXS.arr {n : Nat} {h : XH} {c N a : Nat} {i z : Int} (hs : xXS n h) (hT : xTY c = (a, N)) (ha : a = 10 ∨ a = 11 ∨ a = 12) : xXS n (hset h c i z) := by
  intro c' k' h1 h2
  unfold hset
  rw [if_neg (fun q => by obtain ⟨e, -⟩ := q; subst e; exact h2 (xRF_arr hT ha k'))]
  exact hs c' k' h1 h2
section XCELL
variable {K : XK} {M : XM} {R : XR} {Q : Option XV → Nat → XH → Prop} {u : Nat × Nat × Nat} {pc : Nat} {L : List (Nat × XV)} {st : List XV} {h : XH}
def xC (R : XR) (M : XM) (u : Nat × Nat × Nat) (c0 : Nat) : Prop := (c0 < u.1 ∨ (R.1 = true ∧ c0 < M.2.2.2.2)) ∧ c0 < 1000000
theorem WX.lt {c0 : Nat} (hc : xC R M u c0) (kk : c0 < u.1 ∧ c0 < 1000000 → WX K M R Q u pc L st h) : WX K M R Q u pc L st h := by
  refine WX.md fun md => kk ⟨?_, hc.2⟩
  rcases hc.1 with q | ⟨q1, q2⟩
  · exact q
  · exact Nat.lt_of_lt_of_le q2 (md q1).1
theorem x_gi (p' : Nat) (kz : Int) {c0 k ci N i : Nat} (hkz : (k : Int) = kz) (hl : xLi M.2.1.cls i ci k N) (hd : decode M.1 pc = .ok (.getfield i, 3)) (hT : xTY c0 = (ci, N)) (hc : xC R M u c0)
    (hp : pc + 3 = p') (kk : WX K M R Q u p' L (vi (h c0 kz) :: st) h) : WX K M R Q u pc L (vr c0 :: st) h := by
  subst hp
  exact WX.lt hc fun hc => x_getf hd hl.1 hT (Or.inl hl.2.1) hl.2.2.1 hc (by rw [hkz]; exact kk)
theorem x_gz (p' : Nat) (kz : Int) {c0 k ci N i : Nat} (hkz : (k : Int) = kz) (hl : xLz M.2.1.cls i ci k N) (hd : decode M.1 pc = .ok (.getfield i, 3)) (hT : xTY c0 = (ci, N)) (hc : xC R M u c0)
    (hp : pc + 3 = p') (kk : WX K M R Q u p' L (vi (h c0 kz) :: st) h) : WX K M R Q u pc L (vr c0 :: st) h := by
  subst hp
  exact WX.lt hc fun hc => x_getf hd hl.1 hT (Or.inr hl.2.1) hl.2.2.1 hc (by rw [hkz]; exact kk)
theorem x_gr (p' : Nat) {c0 k ci N i : Nat} (r : Nat) (hl : xLr M.2.1.cls i ci k N) (hd : decode M.1 pc = .ok (.getfield i, 3)) (hT : xTY c0 = (ci, N)) (hr : xRF c0 k = r + 1) (hc : c0 < M.2.2.2.2 ∧ c0 < 1000000) (hr2 : r < 1000000) (hmd : R.1 = true)
    (hp : pc + 3 = p') (kk : WX K M R Q u p' L (vr r :: st) h) : WX K M R Q u pc L (vr c0 :: st) h := by
  subst hp
  exact x_getr hd hl.1 hT hl.2.1 hl.2.2.1 hc hr hr2 hmd kk
theorem x_gr0 (p' : Nat) {c0 k ci N i : Nat} (r : Nat) (hl : xLr M.2.1.cls i ci k N) (hd : decode M.1 pc = .ok (.getfield i, 3)) (hT : xTY c0 = (ci, N)) (hr : h c0 k = (r : Int) + 1) (hc : c0 < u.1 ∧ c0 < 1000000) (hr2 : r < 1000000)
    (hp : pc + 3 = p') (kk : WX K M R Q u p' L (vr r :: st) h) : WX K M R Q u pc L (vr c0 :: st) h := by
  subst hp
  exact x_getr0 hd hl.1 hT hl.2.1 hl.2.2.1 hc hr hr2 kk
theorem x_pi (p' : Nat) (kz : Int) {c0 k ci N i : Nat} {z : Int} (hkz : (k : Int) = kz) (hl : xLi M.2.1.cls i ci k N) (hd : decode M.1 pc = .ok (.putfield i, 3)) (hT : xTY c0 = (ci, N)) (hRF : xRF c0 k = 0) (hc : xC R M u c0)
    (hp : pc + 3 = p') (kk : WX K M R Q u p' L st (hset h c0 kz z)) : WX K M R Q u pc L (vi z :: vr c0 :: st) h := by
  subst hp
  exact WX.lt hc fun hc => x_putf hd hl.1 hl.2.2.2.2 hT (Or.inl hl.2.1) hl.2.2.1 hl.2.2.2.1 hc hRF (by rw [hkz]; exact kk)
theorem x_pz (p' : Nat) (kz : Int) {c0 k ci N i : Nat} {z : Int} (hkz : (k : Int) = kz) (hl : xLz M.2.1.cls i ci k N) (hd : decode M.1 pc = .ok (.putfield i, 3)) (hT : xTY c0 = (ci, N)) (hRF : xRF c0 k = 0) (hc : xC R M u c0) (hz : z = 0 ∨ z = 1)
    (hp : pc + 3 = p') (kk : WX K M R Q u p' L st (hset h c0 kz z)) : WX K M R Q u pc L (vi z :: vr c0 :: st) h := by
  subst hp
  exact WX.lt hc fun hc => x_putf hd hl.1 hl.2.2.2.2 hT (Or.inr ⟨hl.2.1, hz⟩) hl.2.2.1 hl.2.2.2.1 hc hRF (by rw [hkz]; exact kk)
theorem xtys_at (K : XK) (j : Nat) (ty : FieldType) (h : [FieldType.char, .int, .boolean, .object RX1, .object RX6, .array .int][j]? = some ty) : (xtys K)[j]? = some (K.2.2.2.1 j, ty) := by
  have hj : j < 6 := (List.getElem?_eq_some_iff.mp h).1
  have : j = 0 ∨ j = 1 ∨ j = 2 ∨ j = 3 ∨ j = 4 ∨ j = 5 := by omega
  rcases this with e | e | e | e | e | e <;> subst e <;> cases h <;> rfl
theorem x_iaload (p' : Nat) {c0 N : Nat} {i : Int} (hd : decode M.1 pc = .ok (.iaload, 1)) (hT : xTY c0 = (11, N)) (hc : xC R M u c0) (hN : N < 2147483648) (h0 : 0 ≤ i) (h1 : i < N)
    (hp : pc + 1 = p') (kk : WX K M R Q u p' L (vi (h c0 i) :: st) h) : WX K M R Q u pc L (vi i :: vr c0 :: st) h := by
  subst hp
  refine WX.lt hc fun hc => ?_
  intro hmd p e s m args below meth c E H locs ls hH hP hS hlv
  have k2 := kk hmd p e s m args below meth c E H locs ls hH hP hS hlv
  have he : (xw K u.1 h)[c0]? = some (K.2.2.1 + c0, .inl (K.2.2.2.1 1, N, .inl fun (j : Nat) => Int32.ofInt (h c0 j))) := by
    rw [xw_get hc.1, hT, xe_arr K 11 N _ (by decide) (by decide)] <;> rfl
  show W p K.1 e (xrm R) s m args below meth c H locs u.2.1 u.2.2 _ (F0 m pc ls (.int (Int32.ofInt i) :: .ref (xad K c0) :: st.map (xv K)))
  rw [xad_lt hc.2]
  refine va_iald E.1 E.2.1 E.2.2.2.2.2.2.2.2.1.1 hP c0 1 he (xtys_at K 1 _ rfl) (xin h0 h1 hN) hd ?_
  have e1 : ((Int32.ofInt i).toNatClampNeg : Int) = i := by rw [xclamp h0 (by omega)]; omega
  show W p K.1 e (xrm R) s m args below meth c H locs u.2.1 u.2.2 _ (F0 m (pc + 1) ls (.int (Int32.ofInt (h c0 ((Int32.ofInt i).toNatClampNeg : Int))) :: st.map (xv K)))
  rw [e1]
  exact k2
theorem x_baload (p' : Nat) {c0 N : Nat} {i : Int} (hd : decode M.1 pc = .ok (.baload, 1)) (hT : xTY c0 = (12, N)) (hc : xC R M u c0) (hN : N < 2147483648) (h0 : 0 ≤ i) (h1 : i < N)
    (hp : pc + 1 = p') (kk : WX K M R Q u p' L (vi (h c0 i) :: st) h) : WX K M R Q u pc L (vi i :: vr c0 :: st) h := by
  subst hp
  refine WX.lt hc fun hc => ?_
  intro hmd p e s m args below meth c E H locs ls hH hP hS hlv
  have k2 := kk hmd p e s m args below meth c E H locs ls hH hP hS hlv
  have he : (xw K u.1 h)[c0]? = some (K.2.2.1 + c0, .inl (K.2.2.2.1 2, N, .inl fun (j : Nat) => Int32.ofInt (h c0 j))) := by
    rw [xw_get hc.1, hT, xe_arr K 12 N _ (by decide) (by decide)] <;> rfl
  show W p K.1 e (xrm R) s m args below meth c H locs u.2.1 u.2.2 _ (F0 m pc ls (.int (Int32.ofInt i) :: .ref (xad K c0) :: st.map (xv K)))
  rw [xad_lt hc.2]
  refine va_zald E.1 E.2.1 E.2.2.2.2.2.2.2.2.1.1 hP c0 2 he (xtys_at K 2 _ rfl) (xin h0 h1 hN) hd ?_
  have e1 : ((Int32.ofInt i).toNatClampNeg : Int) = i := by rw [xclamp h0 (by omega)]; omega
  show W p K.1 e (xrm R) s m args below meth c H locs u.2.1 u.2.2 _ (F0 m (pc + 1) ls (.int (Int32.ofInt (h c0 ((Int32.ofInt i).toNatClampNeg : Int))) :: st.map (xv K)))
  rw [e1]
  exact k2
theorem x_caload (p' : Nat) {c0 N : Nat} {i : Int} (hd : decode M.1 pc = .ok (.caload, 1)) (hT : xTY c0 = (10, N)) (hc : xC R M u c0) (hN : N < 2147483648) (h0 : 0 ≤ i) (h1 : i < N)
    (hp : pc + 1 = p') (kk : WX K M R Q u p' L (vi (h c0 i) :: st) h) : WX K M R Q u pc L (vi i :: vr c0 :: st) h := by
  subst hp
  refine WX.lt hc fun hc => ?_
  intro hmd p e s m args below meth c E H locs ls hH hP hS hlv
  have k2 := kk hmd p e s m args below meth c E H locs ls hH hP hS hlv
  have he : (xw K u.1 h)[c0]? = some (K.2.2.1 + c0, .inl (K.2.2.2.1 0, N, .inl fun (j : Nat) => Int32.ofInt (h c0 j))) := by
    rw [xw_get hc.1, hT, xe_arr K 10 N _ (by decide) (by decide)] <;> rfl
  show W p K.1 e (xrm R) s m args below meth c H locs u.2.1 u.2.2 _ (F0 m pc ls (.int (Int32.ofInt i) :: .ref (xad K c0) :: st.map (xv K)))
  rw [xad_lt hc.2]
  refine va_cald E.1 E.2.1 E.2.2.2.2.2.2.2.2.1.1 hP c0 0 he (xtys_at K 0 _ rfl) (xin h0 h1 hN) hd ?_
  have e1 : ((Int32.ofInt i).toNatClampNeg : Int) = i := by rw [xclamp h0 (by omega)]; omega
  show W p K.1 e (xrm R) s m args below meth c H locs u.2.1 u.2.2 _ (F0 m (pc + 1) ls (.int (Int32.ofInt (h c0 ((Int32.ofInt i).toNatClampNeg : Int))) :: st.map (xv K)))
  rw [e1]
  exact k2
theorem xarr_set {K : XK} {n c0 a N : Nat} {h : XH} {i z : Int} {w : Int32} (hc : c0 < n) (hT : xTY c0 = (a, N)) (ha : a = 10 ∨ a = 11 ∨ a = 12) (h0 : 0 ≤ i) (h1 : i < 2147483648) (hw : w = Int32.ofInt z) :
    (xw K n h).set c0 (K.2.2.1 + c0, .inl (K.2.2.2.1 (a - 10), N, .inl (upd (fun (j : Nat) => Int32.ofInt (h c0 j)) (Int32.ofInt i).toNatClampNeg w))) = xw K n (hset h c0 i z) := by
  refine xw_set hc ?_
  rw [hT, xe_arr K a N _ (by omega) (by omega)]
  congr 3
  congr 1
  funext j
  unfold upd hset
  rw [xclamp h0 h1]
  by_cases hj : j = i.toNat
  · rw [if_pos hj, if_pos ⟨rfl, by omega⟩, hw]
  · rw [if_neg hj, if_neg (fun q => hj (by omega))]
theorem x_iastore (p' : Nat) {c0 N : Nat} {i z : Int} (hd : decode M.1 pc = .ok (.iastore, 1)) (hT : xTY c0 = (11, N)) (hc : xC R M u c0) (hN : N < 2147483648) (h0 : 0 ≤ i) (h1 : i < N) 
    (hp : pc + 1 = p') (kk : WX K M R Q u p' L st (hset h c0 i z)) : WX K M R Q u pc L (vi z :: vi i :: vr c0 :: st) h := by
  subst hp
  refine WX.lt hc fun hc => ?_
  intro hmd p e s m args below meth c E H locs ls hH hP hS hlv
  have k2 := fun H1 locs1 hH1 hP1 hS1 => kk (fun q => ⟨(hmd q).1, (hmd q).2.arr hT (by decide)⟩) p e s m args below meth c E H1 locs1 ls hH1 hP1 hS1 hlv
  have he : (xw K u.1 h)[c0]? = some (K.2.2.1 + c0, .inl (K.2.2.2.1 1, N, .inl fun (j : Nat) => Int32.ofInt (h c0 j))) := by
    rw [xw_get hc.1, hT, xe_arr K 11 N _ (by decide) (by decide)] <;> rfl
  show W p K.1 e (xrm R) s m args below meth c H locs u.2.1 u.2.2 _ (F0 m pc ls (.int (Int32.ofInt z) :: .int (Int32.ofInt i) :: .ref (xad K c0) :: st.map (xv K)))
  rw [xad_lt hc.2]
  have hlt : (Int32.ofInt i).toNatClampNeg < N := by rw [xclamp h0 (by omega)]; omega
  refine W.iast E.1 E.2.1 (hP c0 _ he) ((E.2.2.2.2.2.2.2.2.1.1.2 1 _ (xtys_at K 1 _ rfl)).1 N (fun (j : Nat) => .int (Int32.ofInt (h c0 j)))) (fun q => by cases q) (by show ¬ (Int32.ofInt i < 0 ∨ (arrV _ _ _).slots.size ≤ _); rw [arrV_size]; exact xin h0 h1 hN) rfl rfl hd fun H1 e1 z1 oq => ?_
  have hP1 : va_P K.2.1 vwCl ((xw K u.1 h).set c0 (K.2.2.1 + c0, .inl (K.2.2.2.1 (11 - 10), N, .inl (upd (fun (j : Nat) => Int32.ofInt (h c0 j)) (Int32.ofInt i).toNatClampNeg ((Int32.ofInt z)))))) H1 := by
    refine hP.set xw_D he ?_ oq
    show H1[K.2.2.1 + c0]? = some (vp_cell _ _)
    rw [e1]
    rw [vp_cell_i, vp_cell_i, arrV_store]
    congr 2
    funext q
    by_cases hq : q = (Int32.ofInt i).toNatClampNeg
    · subst hq
      simp [updV, upd, vp_nar]
      try rfl
    · simp [updV, upd, hq]
  rw [xarr_set (z := z) hc.1 hT (by decide) h0 (by omega) rfl] at hP1
  exact k2 H1 _ (z1.trans hH) hP1 (hS.put z1 oq (xw_D.2 c0 _ he))
theorem x_bastore (p' : Nat) {c0 N : Nat} {i z : Int} (hd : decode M.1 pc = .ok (.bastore, 1)) (hT : xTY c0 = (12, N)) (hc : xC R M u c0) (hN : N < 2147483648) (h0 : 0 ≤ i) (h1 : i < N) (hz : z = 0 ∨ z = 1) 
    (hp : pc + 1 = p') (kk : WX K M R Q u p' L st (hset h c0 i z)) : WX K M R Q u pc L (vi z :: vi i :: vr c0 :: st) h := by
  subst hp
  refine WX.lt hc fun hc => ?_
  intro hmd p e s m args below meth c E H locs ls hH hP hS hlv
  have k2 := fun H1 locs1 hH1 hP1 hS1 => kk (fun q => ⟨(hmd q).1, (hmd q).2.arr hT (by decide)⟩) p e s m args below meth c E H1 locs1 ls hH1 hP1 hS1 hlv
  have he : (xw K u.1 h)[c0]? = some (K.2.2.1 + c0, .inl (K.2.2.2.1 2, N, .inl fun (j : Nat) => Int32.ofInt (h c0 j))) := by
    rw [xw_get hc.1, hT, xe_arr K 12 N _ (by decide) (by decide)] <;> rfl
  show W p K.1 e (xrm R) s m args below meth c H locs u.2.1 u.2.2 _ (F0 m pc ls (.int (Int32.ofInt z) :: .int (Int32.ofInt i) :: .ref (xad K c0) :: st.map (xv K)))
  rw [xad_lt hc.2]
  have hlt : (Int32.ofInt i).toNatClampNeg < N := by rw [xclamp h0 (by omega)]; omega
  refine W.zast E.1 E.2.1 (hP c0 _ he) ((E.2.2.2.2.2.2.2.2.1.1.2 2 _ (xtys_at K 2 _ rfl)).1 N (fun (j : Nat) => .int (Int32.ofInt (h c0 j)))) (fun q => by cases q) (by show ¬ (Int32.ofInt i < 0 ∨ (arrV _ _ _).slots.size ≤ _); rw [arrV_size]; exact xin h0 h1 hN) rfl rfl hd fun H1 e1 z1 oq => ?_
  have hP1 : va_P K.2.1 vwCl ((xw K u.1 h).set c0 (K.2.2.1 + c0, .inl (K.2.2.2.1 (12 - 10), N, .inl (upd (fun (j : Nat) => Int32.ofInt (h c0 j)) (Int32.ofInt i).toNatClampNeg (vp_nar .boolean (Int32.ofInt z)))))) H1 := by
    refine hP.set xw_D he ?_ oq
    show H1[K.2.2.1 + c0]? = some (vp_cell _ _)
    rw [e1]
    rw [vp_cell_i, vp_cell_i, arrV_store]
    congr 2
    funext q
    by_cases hq : q = (Int32.ofInt i).toNatClampNeg
    · subst hq
      simp [updV, upd, vp_nar]
      try rfl
    · simp [updV, upd, hq]
  rw [xarr_set (z := z) hc.1 hT (by decide) h0 (by omega) (by rcases hz with q | q <;> subst q <;> rfl)] at hP1
  exact k2 H1 _ (z1.trans hH) hP1 (hS.put z1 oq (xw_D.2 c0 _ he))
theorem xnar_char {z : Int} (hz : 0 ≤ z ∧ z < 65536) : vp_nar .char (Int32.ofInt z) = Int32.ofInt z := by
  obtain ⟨n, rfl⟩ := Int.eq_ofNat_of_zero_le hz.1
  have := (pk_charN (q := n) (by omega)).1
  unfold vp_nar
  show (match narrow .char (.int (nI n)) with | .int y => y | _ => 0) = nI n
  rw [this]
theorem x_castore (p' : Nat) {c0 N : Nat} {i z : Int} (hd : decode M.1 pc = .ok (.castore, 1)) (hT : xTY c0 = (10, N)) (hc : xC R M u c0) (hN : N < 2147483648) (h0 : 0 ≤ i) (h1 : i < N) (hz : 0 ≤ z ∧ z < 65536) 
    (hp : pc + 1 = p') (kk : WX K M R Q u p' L st (hset h c0 i z)) : WX K M R Q u pc L (vi z :: vi i :: vr c0 :: st) h := by
  subst hp
  refine WX.lt hc fun hc => ?_
  intro hmd p e s m args below meth c E H locs ls hH hP hS hlv
  have k2 := fun H1 locs1 hH1 hP1 hS1 => kk (fun q => ⟨(hmd q).1, (hmd q).2.arr hT (by decide)⟩) p e s m args below meth c E H1 locs1 ls hH1 hP1 hS1 hlv
  have he : (xw K u.1 h)[c0]? = some (K.2.2.1 + c0, .inl (K.2.2.2.1 0, N, .inl fun (j : Nat) => Int32.ofInt (h c0 j))) := by
    rw [xw_get hc.1, hT, xe_arr K 10 N _ (by decide) (by decide)] <;> rfl
  show W p K.1 e (xrm R) s m args below meth c H locs u.2.1 u.2.2 _ (F0 m pc ls (.int (Int32.ofInt z) :: .int (Int32.ofInt i) :: .ref (xad K c0) :: st.map (xv K)))
  rw [xad_lt hc.2]
  have hlt : (Int32.ofInt i).toNatClampNeg < N := by rw [xclamp h0 (by omega)]; omega
  refine W.cast E.1 E.2.1 (hP c0 _ he) ((E.2.2.2.2.2.2.2.2.1.1.2 0 _ (xtys_at K 0 _ rfl)).1 N (fun (j : Nat) => .int (Int32.ofInt (h c0 j)))) (fun q => by cases q) (by show ¬ (Int32.ofInt i < 0 ∨ (arrV _ _ _).slots.size ≤ _); rw [arrV_size]; exact xin h0 h1 hN) rfl rfl hd fun H1 e1 z1 oq => ?_
  have hP1 : va_P K.2.1 vwCl ((xw K u.1 h).set c0 (K.2.2.1 + c0, .inl (K.2.2.2.1 (10 - 10), N, .inl (upd (fun (j : Nat) => Int32.ofInt (h c0 j)) (Int32.ofInt i).toNatClampNeg (vp_nar .char (Int32.ofInt z)))))) H1 := by
    refine hP.set xw_D he ?_ oq
    show H1[K.2.2.1 + c0]? = some (vp_cell _ _)
    rw [e1]
    rw [vp_cell_i, vp_cell_i, arrV_store]
    congr 2
    funext q
    by_cases hq : q = (Int32.ofInt i).toNatClampNeg
    · subst hq
      simp [updV, upd, vp_nar]
      try rfl
    · simp [updV, upd, hq]
  rw [xarr_set (z := z) hc.1 hT (by decide) h0 (by omega) (xnar_char hz)] at hP1
  exact k2 H1 _ (z1.trans hH) hP1 (hS.put z1 oq (xw_D.2 c0 _ he))
theorem x_aaload0 {c0 N a j r : Nat} {i : Int} (hd : decode M.1 pc = .ok (.aaload, 1)) (hT : xTY c0 = (a, N)) (ha : a = 13 ∨ a = 14 ∨ a = 15) (hc : c0 < u.1 ∧ c0 < 1000000) (hN : N < 2147483648) (hi : i = (j : Int)) (h1 : j < N) (hr : h c0 j = (r : Int) + 1) (hr2 : r < 1000000)
    (kk : WX K M R Q u (pc + 1) L (vr r :: st) h) : WX K M R Q u pc L (vi i :: vr c0 :: st) h := by
  subst hi
  intro hmd p e s m args below meth c E H locs ls hH hP hS hlv
  have k2 := kk hmd p e s m args below meth c E H locs ls hH hP hS hlv
  have he : (xw K u.1 h)[c0]? = some (K.2.2.1 + c0, .inl (K.2.2.2.1 (a - 10), N, .inr (.inr (.inr (.inr fun (j : Nat) => xro K (h c0 j)))))) := by
    rw [xw_get hc.1, hT, xe_ref K a N _ (by rcases ha with q | q | q <;> rw [q] <;> decide)]
  show W p K.1 e (xrm R) s m args below meth c H locs u.2.1 u.2.2 _ (F0 m pc ls (.int (Int32.ofInt j) :: .ref (xad K c0) :: st.map (xv K)))
  rw [xad_lt hc.2]
  have e1 : (Int32.ofInt (j : Int)).toNatClampNeg = j := by rw [xclamp (by omega) (by omega)]; omega
  have e2 : va_rf (xro K (h c0 j)) = xv K (vr r) := by
    rw [hr]
    unfold xro
    rw [if_neg (by omega), show ((r : Int) + 1).toNat - 1 = r by omega]
    show Value.ref _ = Value.ref (xad K r)
    rw [xad_lt hr2]
  have hA : ∃ ty, ArrOfT s (K.2.2.2.1 (a - 10)) ty ∧ ty.isReference = true := by
    rcases ha with q | q | q <;> subst q
    · exact ⟨_, (E.2.2.2.2.2.2.2.2.1.1.2 3 _ (xtys_at K 3 _ rfl)).1, rfl⟩
    · exact ⟨_, (E.2.2.2.2.2.2.2.2.1.1.2 4 _ (xtys_at K 4 _ rfl)).1, rfl⟩
    · exact ⟨_, (E.2.2.2.2.2.2.2.2.1.1.2 5 _ (xtys_at K 5 _ rfl)).1, rfl⟩
  obtain ⟨ty, hA1, hA2⟩ := hA
  refine W.aald (v := xv K (vr r)) (ty := ty) E.1 E.2.1 (hP c0 _ he) (hA1 N (fun (j : Nat) => va_rf (xro K (h c0 j)))) hA2 (fun q => by cases q) (by show ¬ (Int32.ofInt j < 0 ∨ (arrV _ _ _).slots.size ≤ _); rw [arrV_size]; exact (xin (z := (j : Int)) (n := N) (by omega) (by omega) hN)) (by show (arrV _ _ _).slots[_]? = _; rw [e1, arrV_read _ _ h1, e2]) rfl rfl hd k2
theorem x_aaload (p' : Nat) {c0 N a j : Nat} (r : Nat) {i : Int} (hd : decode M.1 pc = .ok (.aaload, 1)) (hT : xTY c0 = (a, N)) (ha : a = 13 ∨ a = 14 ∨ a = 15) (hc : c0 < M.2.2.2.2 ∧ c0 < 1000000) (hN : N < 2147483648) (hi : i = (j : Int)) (h1 : j < N) (hr : xRF c0 j = r + 1) (hr2 : r < 1000000) (hmd : R.1 = true)
    (hp : pc + 1 = p') (kk : WX K M R Q u p' L (vr r :: st) h) : WX K M R Q u pc L (vi i :: vr c0 :: st) h := by
  subst hp
  refine WX.md fun md => ?_
  obtain ⟨h2, h3⟩ := md hmd
  have hlt : c0 < u.1 := Nat.lt_of_lt_of_le hc.1 h2
  exact x_aaload0 hd hT ha ⟨hlt, hc.2⟩ hN hi h1 (by rw [h3 c0 j hlt (by rw [hr]; omega), hr]; rfl) hr2 kk
/-- ends -/
theorem xQ_of {v : Option XV} (hq : Q v u.1 h) (hmd : R.1 = true → M.2.2.2.2 ≤ u.1 ∧ xXS u.1 h) {s : State} {args : Array Value} {H : Heap} {locs : List Loc} (hH : H.size = K.2.2.1 + u.1) (hP : va_P K.2.1 vwCl (xw K u.1 h) H) (hS : va_S (xA K) s.heap H locs) (t : State) (ht : t.heap = H) : xQ K R.1 Q args s (.returned (v.map (xv K))) t :=
  ⟨⟨v, u.1, h, rfl, hq, by rw [ht]; exact hH, by rw [ht]; exact hP, fun q => (hmd q).2⟩, hS.F ht⟩
theorem x_ireturn {z : Int} (hd : decode M.1 pc = .ok (.ireturn, 1)) (hr : M.2.2.2.1 = some .int) (hu : u.2 = R.2.2) (hq : Q (some (vi z)) u.1 h) : WX K M R Q u pc L [vi z] h := by
  intro hmd p e s m args below meth c E H locs ls hH hP hS hlv
  have e1 : R.2.2.1 = u.2.1 := by rw [hu]
  have e2 : R.2.2.2 = u.2.2 := by rw [hu]
  rw [e1, e2]
  exact W.iret E.1 E.2.1 (E.2.2.2.1.trans hr) (fun t ht _ => xQ_of hq hmd hH hP hS t ht) hS.2.2 hd E.2.2.2.2.1
theorem x_zreturn {z : Int} (hd : decode M.1 pc = .ok (.ireturn, 1)) (hr : M.2.2.2.1 = some .boolean) (hu : u.2 = R.2.2) (hz : z = 0 ∨ z = 1) (hq : Q (some (vi z)) u.1 h) : WX K M R Q u pc L [vi z] h := by
  intro hmd p e s m args below meth c E H locs ls hH hP hS hlv
  have e1 : R.2.2.1 = u.2.1 := by rw [hu]
  have e2 : R.2.2.2 = u.2.2 := by rw [hu]
  rw [e1, e2]
  exact W.zret E.1 E.2.1 (E.2.2.2.1.trans hr) (by rcases hz with q | q <;> subst q <;> rfl) (fun t ht _ => xQ_of hq hmd hH hP hS t ht) hS.2.2 hd E.2.2.2.2.1
theorem x_creturn {z : Int} (hd : decode M.1 pc = .ok (.ireturn, 1)) (hr : M.2.2.2.1 = some .char) (hu : u.2 = R.2.2) (hz : 0 ≤ z ∧ z < 65536) (hq : Q (some (vi z)) u.1 h) : WX K M R Q u pc L [vi z] h := by
  intro hmd p e s m args below meth c E H locs ls hH hP hS hlv
  have e1 : R.2.2.1 = u.2.1 := by rw [hu]
  have e2 : R.2.2.2 = u.2.2 := by rw [hu]
  rw [e1, e2]
  refine W.zret E.1 E.2.1 (E.2.2.2.1.trans hr) ?_ (fun t ht _ => xQ_of hq hmd hH hP hS t ht) hS.2.2 hd E.2.2.2.2.1
  obtain ⟨n, rfl⟩ := Int.eq_ofNat_of_zero_le hz.1
  exact (pk_charN (q := n) (by omega)).1
theorem x_return (hd : decode M.1 pc = .ok (.return_, 1)) (hr : M.2.2.2.1 = none) (hu : u.2 = R.2.2) (hq : Q none u.1 h) : WX K M R Q u pc L [] h := by
  intro hmd p e s m args below meth c E H locs ls hH hP hS hlv
  have e1 : R.2.2.1 = u.2.1 := by rw [hu]
  have e2 : R.2.2.2 = u.2.2 := by rw [hu]
  rw [e1, e2]
  exact W.vret E.1 E.2.1 (E.2.2.2.1.trans hr) (fun t ht _ => xQ_of hq hmd hH hP hS t ht) hS.2.2 hd E.2.2.2.2.1
end XCELL
end
section
/-! rows of the small machine: calls -/
theorem xPc_blind {K : XK} {M : XM} {md : Bool} {n : Nat} {as : List XV} {h : XH} : FrameBlind (xPc K M md n as h) := by
  intro a U g mk hp
  obtain ⟨h1, h2, h3, h4, h5⟩ := hp
  exact ⟨h1, h2, h3, h4.calling, h5⟩
section XCALL
variable {K : XK} {M : XM} {R : XR} {Q : Option XV → Nat → XH → Prop} {u : Nat × Nat × Nat} {pc : Nat} {L : List (Nat × XV)} {st st0 : List XV} {h : XH}
variable {M' : XM} {R' : XR} {as : List XV} {Q' : Option XV → Nat → XH → Prop} {a : Nat}
def xMode (R : XR) (M : XM) (u : Nat × Nat × Nat) (h : XH) (R' : XR) (M' : XM) : Prop := (R.1 = true → R'.1 = true) ∧ (R'.1 = true → (R.1 = true ∧ M'.2.2.2.2 ≤ M.2.2.2.2) ∨ (M'.2.2.2.2 ≤ u.1 ∧ xXS u.1 h))
theorem x_run {p : Program} {e : Env} {s : State} {m : MethodId} {args : Array Value} {below : List Frame} {meth : Method} {c : Code} (E : XE K M p s m args meth c) {H : Heap} {locs : List Loc} {ls : Array Slot} (hH : H.size = K.2.2.1 + u.1) (hS : va_S (xA K) s.heap H locs) (hlv : lv_has ls M.2.2.1 (xL K L)) (hmd : R.1 = true → M.2.2.2.2 ≤ u.1 ∧ xXS u.1 h) (hm : R.1 = true → R'.1 = true) {st1 : List Value} {ar : Array Value}
    (run : va_Run p K.1 e (xrm R) s m args below meth c H locs u.2.1 u.2.2 R'.2.2.1 R'.2.2.2 (F0 m pc ls st1) (st.map (xv K)) (xQ K R'.1 Q' ar) (xA K))
    (kk : ∀ (v : Option XV) (n' : Nat) (h' : XH), Q' v n' h' → WX K M R Q (n', u.2.1 + R'.2.2.1, u.2.2 + R'.2.2.2) (pc + 3) L (v.toList ++ st) h') :
    W p K.1 e (xrm R) s m args below meth c H locs u.2.1 u.2.2 (MQ below (xQ K R.1 Q) args s R.2.2.1 R.2.2.2 (xA K)) (F0 m pc ls st1) := by
  intro T hT X
  obtain ⟨v, st₀, t, T', Lx, h0, X', hL, e1, e2, ⟨⟨v', n', h', hv, hq, hz, hp', hx'⟩, hz2, hk⟩, stp⟩ := run T hT X
  rw [h0] at hz2 hk
  have hv2 : v = v'.map (xv K) := by cases hv; rfl
  subst hv2
  have hle : u.1 ≤ n' := by rw [hH, hz] at hz2; omega
  have k2 := kk v' n' h' hq (fun q => ⟨Nat.le_trans (hmd q).1 hle, hx' (hm q)⟩) p e s m args below meth c E T'.heap (locs ++ Lx) ls (by rw [e1]; exact hz) (by rw [e1]; exact hp')
    ⟨Nat.le_trans hS.1 (by rw [e1]; exact hz2), fun q h1 h2 => by rw [e1, hk q (Nat.lt_of_lt_of_le h1 hS.1) h2]; exact hS.2.1 q h1 h2, fun q hq => by
      rcases List.mem_append.mp hq with h | h
      · exact hS.2.2 q h
      · exact hL q h⟩ hlv
  obtain ⟨t2, a1, b1⟩ := k2 T' rfl X'
  refine ⟨t2, stp t2 ?_, b1⟩
  have e3 : (v'.map (xv K)).toList ++ st.map (xv K) = (v'.toList ++ st).map (xv K) := by cases v' <;> simp
  rw [e3]
  exact a1
theorem x_pre {p : Program} {s : State} {m : MethodId} {args : Array Value} {meth : Method} {c : Code} (E : XE K M p s m args meth c) {H : Heap} {locs : List Loc} (hH : H.size = K.2.2.1 + u.1) (hP : va_P K.2.1 vwCl (xw K u.1 h) H) (hS : va_S (xA K) s.heap H locs) (hmd : R.1 = true → M.2.2.2.2 ≤ u.1 ∧ xXS u.1 h) (hm : xMode R M u h R' M') (U : State) (hU : U.heap = H) (hW : s.WarmedH U.vm) : xPc K M' R'.1 u.1 as h (as.map (xv K)).toArray U := by
  refine ⟨rfl, by rw [hU]; exact hH, by rw [hU]; exact hP, XF.moved hW hU hS E.2.2.2.2.2.2.2.2.1, fun q => ?_⟩
  rcases hm.2 q with ⟨q1, q2⟩ | q1
  · exact ⟨Nat.le_trans q2 (hmd q1).1, (hmd q1).2⟩
  · exact q1
def xRoom (R : XR) (u : Nat × Nat × Nat) (R' : XR) : Prop := R'.2.1 + 1 ≤ R.2.1 ∧ u.2.1 + R'.2.2.1 ≤ R.2.2.1 ∧ u.2.2 + R'.2.2.2 ≤ R.2.2.2
def xcs (st : List XV) : Nat := (st.map fun v => match v with | .inr (.inr _) => 2 | _ => 1).sum
theorem xcs_eq (K : XK) (st : List XV) : ((st.map (xv K)).map fun v => v.category).sum = xcs st := by
  unfold xcs
  rw [List.map_map]
  congr 1
  apply List.map_congr_left
  intro v _
  exact xcat K v
theorem x_B {R1 : Room} {s : State} {args : Array Value} {own : String} {i : Nat} (hts : ∀ w ∈ xTb, w.before args s = true) (hF : xMF M' a) (hR : (xrm R').frames + 1 ≤ R1.frames ∧ 38 * (R'.2.1 + 1) ≤ R1.locals) (hl : Cond.methodLink own i M'.2.1 ∈ xTb) : CallB R1 s args own i M'.2.1 M'.1 M'.2.2.1 M'.2.2.2.1 (Cond.code M'.2.1 M'.1 M'.2.2.1 M'.2.2.2.1 :: xTb) (xrm R') R'.2.2.1 R'.2.2.2 a := by
  obtain ⟨-, h1, h2, h3, h4, h5, h6⟩ := hF
  exact callB_of a hts (xGoodIn h1) rfl rfl rfl (hts _ h2) (hts _ hl) ⟨h3, h4, h5⟩ ⟨hR.1, by show 8 + (M'.2.2.1 + 11) + 38 * R'.2.1 ≤ _; omega⟩
theorem x_BN {R1 : Room} {s : State} {args : Array Value} {own host : String} {i : Nat} (hXF : XF K s) (hts : ∀ w ∈ xTb, w.before args s = true) (hF : xMF M' a) (hR : (xrm R').frames + 1 ≤ R1.frames ∧ 38 * (R'.2.1 + 1) ≤ R1.locals) (hl : Cond.methodLinkNest own i M'.2.1 host ∈ xTn) : va_CN R1 s args own i M'.2.1 host M'.1 M'.2.2.1 M'.2.2.2.1 (Cond.code M'.2.1 M'.1 M'.2.2.1 M'.2.2.2.1 :: xTb) (xrm R') R'.2.2.1 R'.2.2.2 a := by
  obtain ⟨-, h1, h2, h3, h4, h5, h6⟩ := hF
  exact va_cnB a hts (xGoodIn h1) rfl rfl rfl (hXF.nestw hl) (hts _ h2) ⟨h3, h4, h5⟩ ⟨hR.1, by show 8 + (M'.2.2.1 + 11) + 38 * R'.2.1 ≤ _; omega⟩
theorem xRoom_of (hR : xRoom R u R') : (xrm R').frames + 1 ≤ (xrm R).frames ∧ 38 * (R'.2.1 + 1) ≤ (xrm R).locals := ⟨hR.1, by show 38 * (R'.2.1 + 1) ≤ 38 * R.2.1; have := hR.1; omega⟩
theorem x_callV {c0 ci N i : Nat} (hM : MX K M' R' u.1 (vr c0 :: as) h Q') (hF : xMF M' a) (hV : xMV M') (hl : xML M.2.1.cls i M'.2.1) (hd : decode M.1 pc = .ok (.invokevirtual i, 3)) (hst : as.reverse ++ vr c0 :: st = st0) (hlen : as.length = a) (hT : xTY c0 = (ci, N)) (hci : ci < 10 ∧ (vwCl[ci]?).map (fun q => q.1) = some M'.2.1.cls) (hc : xC R M u c0) (hR : xRoom R u R') (hw : xcs st ≤ 8) (hm : xMode R M u h R' M')
    (kk : ∀ (v : Option XV) (n' : Nat) (h' : XH), Q' v n' h' → WX K M R Q (n', u.2.1 + R'.2.2.1, u.2.2 + R'.2.2.2) (pc + 3) L (v.toList ++ st) h') : WX K M R Q u pc L st0 h := by
  refine WX.lt hc fun hc => ?_
  intro hmd p e s m args below meth c E H locs ls hH hP hS hlv
  subst hst
  have hts := E.2.2.2.2.2.2.2.1
  have hcf : CallFix p m c M.1 M.2.2.1 s args xTb M.2.1.cls := ⟨E.1, E.2.1, E.2.2.1, E.2.2.2.2.2.2.1, hts⟩
  have hpre := fun (U : State) (hU : U.heap = H) (hW : s.WarmedH U.vm) => x_pre (as := vr c0 :: as) (R' := R') (M' := M') E hH hP hS hmd hm U hU hW
  have hrecv : ∃ cell : Cell, H[K.2.2.1 + c0]? = some cell ∧ cell.vm.isStatics = false ∧ s.vm.findClass M'.2.1.cls = some cell.cls := by
    cases hq : vwCl[ci]? with
    | none => rw [hq] at hci; cases hci.2
    | some q =>
      rw [hq] at hci
      have e1 : q.1 = M'.2.1.cls := Option.some.inj hci.2
      have he : (xw K u.1 h)[c0]? = some (K.2.2.1 + c0, .inr (ci, (List.range N).map fun (k : Nat) => if xFS ci k = 2 then va_rf (xro K (h c0 k)) else .int (Int32.ofInt (h c0 k)))) := by
        rw [xw_get hc.1, hT, xe_obj K _ hci.1]
      have := va_recv E.2.2.2.2.2.2.2.2.1.1 hP hq he
      rw [e1] at this
      exact this
  have hst1 : (as.reverse ++ vr c0 :: st).map (xv K) = (as.map (xv K)).reverse ++ .ref (K.2.2.1 + c0) :: st.map (xv K) := by
    rw [List.map_append, List.map_reverse, List.map_cons]
    show _ ++ Value.ref (xad K c0) :: _ = _
    rw [xad_lt hc.2]
  have e0 : (vr c0 :: as).map (xv K) = Value.ref (K.2.2.1 + c0) :: as.map (xv K) := by
    show Value.ref (xad K c0) :: _ = _
    rw [xad_lt hc.2]
  rw [e0] at hpre
  have hw2 : 2 * (F0 m pc ls ((as.reverse ++ vr c0 :: st).map (xv K))).monitorRoom + ((st.map (xv K)).map fun v => v.category).sum ≤ 8 := by
    rw [xcs_eq]
    exact (by show 2 * 0 + _ ≤ 8; omega)
  rcases hl with hl | ⟨host, hl⟩
  · exact x_run E hH hS hlv hmd hm.1 (va_runV (C := M'.2.1.cls) (b := K.2.2.1 + c0) (As := as.map (xv K)) hcf hM ⟨x_B hts hF (xRoom_of hR) hl, hts _ hV.1, hts _ hV.2⟩ ⟨xPc_blind, hrecv, hpre⟩ rfl (by rw [List.length_map]; exact hlen) hlv.1 hst1 hw2 hd hR.2) kk
  · exact x_run E hH hS hlv hmd hm.1 (va_runVN (C := M'.2.1.cls) (b := K.2.2.1 + c0) (As := as.map (xv K)) hcf hM ⟨x_BN E.2.2.2.2.2.2.2.2.1 hts hF (xRoom_of hR) hl, hts _ hV.1, hts _ hV.2⟩ ⟨xPc_blind, hrecv, hpre⟩ rfl (by rw [List.length_map]; exact hlen) hlv.1 hst1 hw2 hd hR.2) kk
theorem x_callI {c0 i : Nat} (hM : MX K M' R' u.1 (vr c0 :: as) h Q') (hF : xMF M' a) (hV : xMI M') (hr : M'.2.2.2.1 = none) (hl : xML M.2.1.cls i M'.2.1) (hd : decode M.1 pc = .ok (.invokespecial i, 3)) (hst : as.reverse ++ vr c0 :: st = st0) (hlen : as.length = a) (hc : c0 < 1000000) (hR : xRoom R u R') (hw : xcs st ≤ 8) (hm : xMode R M u h R' M')
    (kk : ∀ (v : Option XV) (n' : Nat) (h' : XH), Q' v n' h' → WX K M R Q (n', u.2.1 + R'.2.2.1, u.2.2 + R'.2.2.2) (pc + 3) L (v.toList ++ st) h') : WX K M R Q u pc L st0 h := by
  intro hmd p e s m args below meth c E H locs ls hH hP hS hlv
  obtain ⟨cd, yn, ml, rt, lo⟩ := M'
  have hr : rt = none := hr
  subst hr
  subst hst
  have hts := E.2.2.2.2.2.2.2.1
  have hcf : CallFix p m c M.1 M.2.2.1 s args xTb M.2.1.cls := ⟨E.1, E.2.1, E.2.2.1, E.2.2.2.2.2.2.1, hts⟩
  have hpre := fun (U : State) (hU : U.heap = H) (hW : s.WarmedH U.vm) => x_pre (as := vr c0 :: as) (R' := R') (M' := (cd, yn, ml, none, lo)) E hH hP hS hmd hm U hU hW
  have hst1 : (as.reverse ++ vr c0 :: st).map (xv K) = (as.map (xv K)).reverse ++ .ref (K.2.2.1 + c0) :: st.map (xv K) := by
    rw [List.map_append, List.map_reverse, List.map_cons]
    show _ ++ Value.ref (xad K c0) :: _ = _
    rw [xad_lt hc]
  have e0 : (vr c0 :: as).map (xv K) = Value.ref (K.2.2.1 + c0) :: as.map (xv K) := by
    show Value.ref (xad K c0) :: _ = _
    rw [xad_lt hc]
  rw [e0] at hpre
  have hw2 : 2 * (F0 m pc ls ((as.reverse ++ vr c0 :: st).map (xv K))).monitorRoom + ((st.map (xv K)).map fun v => v.category).sum ≤ 8 := by
    rw [xcs_eq]
    exact (by show 2 * 0 + _ ≤ 8; omega)
  rcases hl with hl | ⟨host, hl⟩
  · have hB := x_B hts hF (xRoom_of hR) hl
    exact x_run E hH hS hlv hmd hm.1 (va_runI (b := K.2.2.1 + c0) (As := as.map (xv K)) hcf hM ⟨hB, hV.2, hts _ hV.1⟩ ⟨xPc_blind, hpre⟩ rfl (by rw [List.length_map]; exact hlen) hlv.1 hst1 hw2 hd hR.2) kk
  · have hB := x_BN E.2.2.2.2.2.2.2.2.1 hts hF (xRoom_of hR) hl
    exact x_run E hH hS hlv hmd hm.1 (va_runIN (b := K.2.2.1 + c0) (As := as.map (xv K)) hcf hM ⟨hB, hV.2, hts _ hV.1⟩ ⟨xPc_blind, hpre⟩ rfl (by rw [List.length_map]; exact hlen) hlv.1 hst1 hw2 hd hR.2) kk
theorem x_callS {i : Nat} (hM : MX K M' R' u.1 as h Q') (hF : xMF M' a) (hV : xMS M') (hl : xML M.2.1.cls i M'.2.1) (hd : decode M.1 pc = .ok (.invokestatic i, 3)) (hst : as.reverse ++ st = st0) (hlen : as.length = a) (hR : xRoom R u R') (hw : xcs st ≤ 8) (hm : xMode R M u h R' M')
    (kk : ∀ (v : Option XV) (n' : Nat) (h' : XH), Q' v n' h' → WX K M R Q (n', u.2.1 + R'.2.2.1, u.2.2 + R'.2.2.2) (pc + 3) L (v.toList ++ st) h') : WX K M R Q u pc L st0 h := by
  intro hmd p e s m args below meth c E H locs ls hH hP hS hlv
  subst hst
  have hts := E.2.2.2.2.2.2.2.1
  have hcf : CallFix p m c M.1 M.2.2.1 s args xTb M.2.1.cls := ⟨E.1, E.2.1, E.2.2.1, E.2.2.2.2.2.2.1, hts⟩
  have hpre := fun (U : State) (hU : U.heap = H) (hW : s.WarmedH U.vm) => x_pre (as := as) (R' := R') (M' := M') E hH hP hS hmd hm U hU hW
  have hst1 : (as.reverse ++ st).map (xv K) = (as.map (xv K)).reverse ++ st.map (xv K) := by
    rw [List.map_append, List.map_reverse]
  have hw2 : 2 * (F0 m pc ls ((as.reverse ++ st).map (xv K))).monitorRoom + ((st.map (xv K)).map fun v => v.category).sum ≤ 8 := by
    rw [xcs_eq]
    exact (by show 2 * 0 + _ ≤ 8; omega)
  rcases hl with hl | ⟨host, hl⟩
  · exact x_run E hH hS hlv hmd hm.1 (va_runS (As := as.map (xv K)) hcf hM ⟨x_B hts hF (xRoom_of hR) hl, hts _ hV⟩ ⟨xPc_blind, hpre⟩ rfl (by rw [List.length_map]; exact hlen) hlv.1 hst1 hw2 hd hR.2) kk
  · exact x_run E hH hS hlv hmd hm.1 (va_runSN (As := as.map (xv K)) hcf hM ⟨x_BN E.2.2.2.2.2.2.2.2.1 hts hF (xRoom_of hR) hl, hts _ hV, trivial⟩ ⟨xPc_blind, hpre⟩ rfl (by rw [List.length_map]; exact hlen) hlv.1 hst1 hw2 hd hR.2) kk
/-! methods that make nothing: an answer that is a number, or none -/
def qI (n : Nat) (P : Int → XH → Prop) : Option XV → Nat → XH → Prop := fun v n' h' => n' = n ∧ ∃ z : Int, v = some (vi z) ∧ P z h'
def qV (n : Nat) (P : XH → Prop) : Option XV → Nat → XH → Prop := fun v n' h' => n' = n ∧ v = none ∧ P h'
abbrev MI (K : XK) (M : XM) (d n : Nat) (as : List XV) (h : XH) (P : Int → XH → Prop) : Prop := MX K M (true, d, 0, 0) n as h (qI n P)
abbrev MV (K : XK) (M : XM) (d n : Nat) (as : List XV) (h : XH) (P : XH → Prop) : Prop := MX K M (true, d, 0, 0) n as h (qV n P)
abbrev WI (K : XK) (M : XM) (d n : Nat) (Q : Option XV → Nat → XH → Prop) (pc : Nat) (L : List (Nat × XV)) (st : List XV) (h : XH) : Prop := WX K M (true, d, 0, 0) Q (n, 0, 0) pc L st h
variable {d d' n : Nat}
theorem x_Vi (p' : Nat) {c0 ci N i : Nat} {P : Int → XH → Prop} (hM : MI K M' d' n (vr c0 :: as) h P) (hF : xMF M' a) (hV : xMV M') (hl : xML M.2.1.cls i M'.2.1) (hd : decode M.1 pc = .ok (.invokevirtual i, 3)) (hst : as.reverse ++ vr c0 :: st = st0) (hlen : as.length = a) (hT : xTY c0 = (ci, N)) (hci : ci < 10 ∧ (vwCl[ci]?).map (fun q => q.1) = some M'.2.1.cls) (hc : c0 < M.2.2.2.2 ∧ c0 < 1000000) (hR : d' + 1 ≤ d) (hw : xcs st ≤ 8) (hm : M'.2.2.2.2 ≤ M.2.2.2.2)
    (hp : pc + 3 = p') (kk : ∀ (z : Int) (h' : XH), P z h' → WI K M d n Q p' L (vi z :: st) h') : WI K M d n Q pc L st0 h := by
  subst hp
  refine x_callV hM hF hV hl hd hst hlen hT hci ⟨Or.inr ⟨rfl, hc.1⟩, hc.2⟩ ⟨hR, Nat.le_refl _, Nat.le_refl _⟩ hw ⟨fun _ => rfl, fun _ => Or.inl ⟨rfl, hm⟩⟩ (fun v n' h' hq => ?_)
  obtain ⟨e1, z, e2, hp⟩ := hq
  have e1 : n' = n := e1
  subst e1; subst e2
  exact kk z h' hp
theorem x_Vv (p' : Nat) {c0 ci N i : Nat} {P : XH → Prop} (hM : MV K M' d' n (vr c0 :: as) h P) (hF : xMF M' a) (hV : xMV M') (hl : xML M.2.1.cls i M'.2.1) (hd : decode M.1 pc = .ok (.invokevirtual i, 3)) (hst : as.reverse ++ vr c0 :: st = st0) (hlen : as.length = a) (hT : xTY c0 = (ci, N)) (hci : ci < 10 ∧ (vwCl[ci]?).map (fun q => q.1) = some M'.2.1.cls) (hc : c0 < M.2.2.2.2 ∧ c0 < 1000000) (hR : d' + 1 ≤ d) (hw : xcs st ≤ 8) (hm : M'.2.2.2.2 ≤ M.2.2.2.2)
    (hp : pc + 3 = p') (kk : ∀ (h' : XH), P h' → WI K M d n Q p' L st h') : WI K M d n Q pc L st0 h := by
  subst hp
  refine x_callV hM hF hV hl hd hst hlen hT hci ⟨Or.inr ⟨rfl, hc.1⟩, hc.2⟩ ⟨hR, Nat.le_refl _, Nat.le_refl _⟩ hw ⟨fun _ => rfl, fun _ => Or.inl ⟨rfl, hm⟩⟩ (fun v n' h' hq => ?_)
  obtain ⟨e1, e2, hp⟩ := hq
  have e1 : n' = n := e1
  subst e1; subst e2
  exact kk h' hp
theorem x_Si (p' : Nat) {i : Nat} {P : Int → XH → Prop} (hM : MI K M' d' n as h P) (hF : xMF M' a) (hV : xMS M') (hl : xML M.2.1.cls i M'.2.1) (hd : decode M.1 pc = .ok (.invokestatic i, 3)) (hst : as.reverse ++ st = st0) (hlen : as.length = a) (hR : d' + 1 ≤ d) (hw : xcs st ≤ 8) (hm : M'.2.2.2.2 ≤ M.2.2.2.2)
    (hp : pc + 3 = p') (kk : ∀ (z : Int) (h' : XH), P z h' → WI K M d n Q p' L (vi z :: st) h') : WI K M d n Q pc L st0 h := by
  subst hp
  refine x_callS hM hF hV hl hd hst hlen ⟨hR, Nat.le_refl _, Nat.le_refl _⟩ hw ⟨fun _ => rfl, fun _ => Or.inl ⟨rfl, hm⟩⟩ (fun v n' h' hq => ?_)
  obtain ⟨e1, z, e2, hp⟩ := hq
  have e1 : n' = n := e1
  subst e1; subst e2
  exact kk z h' hp
theorem x_ri {z : Int} {P : Int → XH → Prop} (hd : decode M.1 pc = .ok (.ireturn, 1)) (hr : M.2.2.2.1 = some .int) (hq : P z h) : WI K M d n (qI n P) pc L [vi z] h := x_ireturn hd hr rfl ⟨rfl, z, rfl, hq⟩
theorem x_rz {z : Int} {P : Int → XH → Prop} (hd : decode M.1 pc = .ok (.ireturn, 1)) (hr : M.2.2.2.1 = some .boolean) (hz : z = 0 ∨ z = 1) (hq : P z h) : WI K M d n (qI n P) pc L [vi z] h := x_zreturn hd hr rfl hz ⟨rfl, z, rfl, hq⟩
theorem x_rv {P : XH → Prop} (hd : decode M.1 pc = .ok (.return_, 1)) (hr : M.2.2.2.1 = none) (hq : P h) : WI K M d n (qV n P) pc L [] h := x_return hd hr rfl ⟨rfl, rfl, hq⟩
end XCALL
end
section
/-! by program: what the tables say of classes, fields, calls and constants -/
theorem wX0_in : ∀ w ∈ u_ws RX0 TX0 6, w ∈ xTb := fun w h => List.mem_filter.mpr ⟨by revert h; revert w; decide +kernel, by revert h; revert w; decide +kernel⟩
theorem clX0 : xCl 0 := ⟨RX0, TX0, 6, rfl, by decide, wX0_in, nmX0, tyX0_ok⟩
theorem wX1_in : ∀ w ∈ u_ws RX1 TX1 4, w ∈ xTb := fun w h => List.mem_filter.mpr ⟨by revert h; revert w; decide +kernel, by revert h; revert w; decide +kernel⟩
theorem clX1 : xCl 1 := ⟨RX1, TX1, 4, rfl, by decide, wX1_in, nmX1, tyX1_ok⟩
theorem wX2_in : ∀ w ∈ u_ws RX2 TX2 2, w ∈ xTb := fun w h => List.mem_filter.mpr ⟨by revert h; revert w; decide +kernel, by revert h; revert w; decide +kernel⟩
theorem clX2 : xCl 2 := ⟨RX2, TX2, 2, rfl, by decide, wX2_in, nmX2, tyX2_ok⟩
theorem wX3_in : ∀ w ∈ u_ws RX3 TX3 16, w ∈ xTb := fun w h => List.mem_filter.mpr ⟨by revert h; revert w; decide +kernel, by revert h; revert w; decide +kernel⟩
theorem clX3 : xCl 3 := ⟨RX3, TX3, 16, rfl, by decide, wX3_in, nmX3, tyX3_ok⟩
theorem wX4_in : ∀ w ∈ u_ws RX4 TX4 4, w ∈ xTb := fun w h => List.mem_filter.mpr ⟨by revert h; revert w; decide +kernel, by revert h; revert w; decide +kernel⟩
theorem clX4 : xCl 4 := ⟨RX4, TX4, 4, rfl, by decide, wX4_in, nmX4, tyX4_ok⟩
theorem wX5_in : ∀ w ∈ u_ws RX5 TX5 17, w ∈ xTb := fun w h => List.mem_filter.mpr ⟨by revert h; revert w; decide +kernel, by revert h; revert w; decide +kernel⟩
theorem clX5 : xCl 5 := ⟨RX5, TX5, 17, rfl, by decide, wX5_in, nmX5, tyX5_ok⟩
theorem wX6_in : ∀ w ∈ u_ws RX6 TX6 4, w ∈ xTb := fun w h => List.mem_filter.mpr ⟨by revert h; revert w; decide +kernel, by revert h; revert w; decide +kernel⟩
theorem clX6 : xCl 6 := ⟨RX6, TX6, 4, rfl, by decide, wX6_in, nmX6, tyX6_ok⟩
theorem wX7_in : ∀ w ∈ u_ws RX7 TX7 4, w ∈ xTb := fun w h => List.mem_filter.mpr ⟨by revert h; revert w; decide +kernel, by revert h; revert w; decide +kernel⟩
theorem clX7 : xCl 7 := ⟨RX7, TX7, 4, rfl, by decide, wX7_in, nmX7, tyX7_ok⟩
theorem wX8_in : ∀ w ∈ u_ws RX8 TX8 7, w ∈ xTb := fun w h => List.mem_filter.mpr ⟨by revert h; revert w; decide +kernel, by revert h; revert w; decide +kernel⟩
theorem clX8 : xCl 8 := ⟨RX8, TX8, 7, rfl, by decide, wX8_in, nmX8, tyX8_ok⟩
theorem wX9_in : ∀ w ∈ u_ws RX9 TX9 31, w ∈ xTb := fun w h => List.mem_filter.mpr ⟨by revert h; revert w; decide +kernel, by revert h; revert w; decide +kernel⟩
theorem clX9 : xCl 9 := ⟨RX9, TX9, 31, rfl, by decide, wX9_in, nmX9, tyX9_ok⟩
theorem LX8_12 : xLr RX8 12 8 0 7 := ⟨⟨RX8, TX8, 7, rfl, by decide, wX8_in, by decide +kernel, Or.inl (xTb_mem 585 (by decide +kernel) rfl)⟩, rfl, ⟨by decide, rfl⟩, rfl, clX8⟩
theorem LX8_19 : xLr RX8 19 8 1 7 := ⟨⟨RX8, TX8, 7, rfl, by decide, wX8_in, by decide +kernel, Or.inl (xTb_mem 586 (by decide +kernel) rfl)⟩, rfl, ⟨by decide, rfl⟩, rfl, clX8⟩
theorem LX8_26 : xLr RX8 26 8 2 7 := ⟨⟨RX8, TX8, 7, rfl, by decide, wX8_in, by decide +kernel, Or.inl (xTb_mem 587 (by decide +kernel) rfl)⟩, rfl, ⟨by decide, rfl⟩, rfl, clX8⟩
theorem LX8_33 : xLr RX8 33 8 3 7 := ⟨⟨RX8, TX8, 7, rfl, by decide, wX8_in, by decide +kernel, Or.inl (xTb_mem 588 (by decide +kernel) rfl)⟩, rfl, ⟨by decide, rfl⟩, rfl, clX8⟩
theorem LX8_42 : xLr RX8 42 8 4 7 := ⟨⟨RX8, TX8, 7, rfl, by decide, wX8_in, by decide +kernel, Or.inl (xTb_mem 589 (by decide +kernel) rfl)⟩, rfl, ⟨by decide, rfl⟩, rfl, clX8⟩
theorem LX8_51 : xLr RX8 51 8 5 7 := ⟨⟨RX8, TX8, 7, rfl, by decide, wX8_in, by decide +kernel, Or.inl (xTb_mem 590 (by decide +kernel) rfl)⟩, rfl, ⟨by decide, rfl⟩, rfl, clX8⟩
theorem LX8_60 : xLr RX8 60 8 6 7 := ⟨⟨RX8, TX8, 7, rfl, by decide, wX8_in, by decide +kernel, Or.inl (xTb_mem 591 (by decide +kernel) rfl)⟩, rfl, ⟨by decide, rfl⟩, rfl, clX8⟩
theorem LX0_9 : xLr RX0 9 0 0 6 := ⟨⟨RX0, TX0, 6, rfl, by decide, wX0_in, by decide +kernel, Or.inl (xTb_mem 284 (by decide +kernel) rfl)⟩, rfl, ⟨by decide, rfl⟩, rfl, clX0⟩
theorem LX0_15 : xLr RX0 15 0 1 6 := ⟨⟨RX0, TX0, 6, rfl, by decide, wX0_in, by decide +kernel, Or.inl (xTb_mem 285 (by decide +kernel) rfl)⟩, rfl, ⟨by decide, rfl⟩, rfl, clX0⟩
theorem LX0_19 : xLi RX0 19 0 5 6 := ⟨⟨RX0, TX0, 6, rfl, by decide, wX0_in, by decide +kernel, Or.inl (xTb_mem 292 (by decide +kernel) rfl)⟩, rfl, ⟨by decide, rfl⟩, rfl, clX0⟩
theorem LX0_54 : xLi RX0 54 0 2 6 := ⟨⟨RX0, TX0, 6, rfl, by decide, wX0_in, by decide +kernel, Or.inl (xTb_mem 286 (by decide +kernel) rfl)⟩, rfl, ⟨by decide, rfl⟩, rfl, clX0⟩
theorem LX0_57 : xLi RX0 57 0 3 6 := ⟨⟨RX0, TX0, 6, rfl, by decide, wX0_in, by decide +kernel, Or.inl (xTb_mem 288 (by decide +kernel) rfl)⟩, rfl, ⟨by decide, rfl⟩, rfl, clX0⟩
theorem LX0_60 : xLi RX0 60 0 4 6 := ⟨⟨RX0, TX0, 6, rfl, by decide, wX0_in, by decide +kernel, Or.inl (xTb_mem 290 (by decide +kernel) rfl)⟩, rfl, ⟨by decide, rfl⟩, rfl, clX0⟩
theorem LX1_9 : xLr RX1 9 1 0 4 := ⟨⟨RX1, TX1, 4, rfl, by decide, wX1_in, by decide +kernel, Or.inl (xTb_mem 151 (by decide +kernel) rfl)⟩, rfl, ⟨by decide, rfl⟩, rfl, clX1⟩
theorem LX1_15 : xLr RX1 15 1 1 4 := ⟨⟨RX1, TX1, 4, rfl, by decide, wX1_in, by decide +kernel, Or.inl (xTb_mem 153 (by decide +kernel) rfl)⟩, rfl, ⟨by decide, rfl⟩, rfl, clX1⟩
theorem LX1_18 : xLi RX1 18 1 2 4 := ⟨⟨RX1, TX1, 4, rfl, by decide, wX1_in, by decide +kernel, Or.inl (xTb_mem 155 (by decide +kernel) rfl)⟩, rfl, ⟨by decide, rfl⟩, rfl, clX1⟩
theorem LX1_22 : xLi RX1 22 1 3 4 := ⟨⟨RX1, TX1, 4, rfl, by decide, wX1_in, by decide +kernel, Or.inl (xTb_mem 159 (by decide +kernel) rfl)⟩, rfl, ⟨by decide, rfl⟩, rfl, clX1⟩
theorem LX2_11 : xLr RX2 11 2 0 2 := ⟨⟨RX2, TX2, 2, rfl, by decide, wX2_in, by decide +kernel, Or.inl (xTb_mem 202 (by decide +kernel) rfl)⟩, rfl, ⟨by decide, rfl⟩, rfl, clX2⟩
theorem LX2_18 : xLi RX2 18 2 1 2 := ⟨⟨RX2, TX2, 2, rfl, by decide, wX2_in, by decide +kernel, Or.inl (xTb_mem 203 (by decide +kernel) rfl)⟩, rfl, ⟨by decide, rfl⟩, rfl, clX2⟩
theorem LX3_9 : xLr RX3 9 3 2 16 := ⟨⟨RX3, TX3, 16, rfl, by decide, wX3_in, by decide +kernel, Or.inl (xTb_mem 223 (by decide +kernel) rfl)⟩, rfl, ⟨by decide, rfl⟩, rfl, clX3⟩
theorem LX3_17 : xLr RX3 17 3 3 16 := ⟨⟨RX3, TX3, 16, rfl, by decide, wX3_in, by decide +kernel, Or.inl (xTb_mem 224 (by decide +kernel) rfl)⟩, rfl, ⟨by decide, rfl⟩, rfl, clX3⟩
theorem LX3_20 : xLr RX3 20 3 4 16 := ⟨⟨RX3, TX3, 16, rfl, by decide, wX3_in, by decide +kernel, Or.inl (xTb_mem 225 (by decide +kernel) rfl)⟩, rfl, ⟨by decide, rfl⟩, rfl, clX3⟩
theorem LX3_23 : xLr RX3 23 3 5 16 := ⟨⟨RX3, TX3, 16, rfl, by decide, wX3_in, by decide +kernel, Or.inl (xTb_mem 226 (by decide +kernel) rfl)⟩, rfl, ⟨by decide, rfl⟩, rfl, clX3⟩
theorem LX3_26 : xLr RX3 26 3 6 16 := ⟨⟨RX3, TX3, 16, rfl, by decide, wX3_in, by decide +kernel, Or.inl (xTb_mem 227 (by decide +kernel) rfl)⟩, rfl, ⟨by decide, rfl⟩, rfl, clX3⟩
theorem LX3_32 : xLr RX3 32 3 7 16 := ⟨⟨RX3, TX3, 16, rfl, by decide, wX3_in, by decide +kernel, Or.inl (xTb_mem 228 (by decide +kernel) rfl)⟩, rfl, ⟨by decide, rfl⟩, rfl, clX3⟩
theorem LX3_36 : xLr RX3 36 3 8 16 := ⟨⟨RX3, TX3, 16, rfl, by decide, wX3_in, by decide +kernel, Or.inl (xTb_mem 229 (by decide +kernel) rfl)⟩, rfl, ⟨by decide, rfl⟩, rfl, clX3⟩
theorem LX3_39 : xLr RX3 39 3 9 16 := ⟨⟨RX3, TX3, 16, rfl, by decide, wX3_in, by decide +kernel, Or.inl (xTb_mem 231 (by decide +kernel) rfl)⟩, rfl, ⟨by decide, rfl⟩, rfl, clX3⟩
theorem LX3_42 : xLr RX3 42 3 10 16 := ⟨⟨RX3, TX3, 16, rfl, by decide, wX3_in, by decide +kernel, Or.inl (xTb_mem 233 (by decide +kernel) rfl)⟩, rfl, ⟨by decide, rfl⟩, rfl, clX3⟩
theorem LX3_45 : xLr RX3 45 3 11 16 := ⟨⟨RX3, TX3, 16, rfl, by decide, wX3_in, by decide +kernel, Or.inl (xTb_mem 236 (by decide +kernel) rfl)⟩, rfl, ⟨by decide, rfl⟩, rfl, clX3⟩
theorem LX3_48 : xLr RX3 48 3 12 16 := ⟨⟨RX3, TX3, 16, rfl, by decide, wX3_in, by decide +kernel, Or.inl (xTb_mem 238 (by decide +kernel) rfl)⟩, rfl, ⟨by decide, rfl⟩, rfl, clX3⟩
theorem LX3_51 : xLr RX3 51 3 0 16 := ⟨⟨RX3, TX3, 16, rfl, by decide, wX3_in, by decide +kernel, Or.inl (xTb_mem 220 (by decide +kernel) rfl)⟩, rfl, ⟨by decide, rfl⟩, rfl, clX3⟩
theorem LX3_55 : xLr RX3 55 3 1 16 := ⟨⟨RX3, TX3, 16, rfl, by decide, wX3_in, by decide +kernel, Or.inl (xTb_mem 222 (by decide +kernel) rfl)⟩, rfl, ⟨by decide, rfl⟩, rfl, clX3⟩
theorem LX3_65 : xLi RX3 65 3 15 16 := ⟨⟨RX3, TX3, 16, rfl, by decide, wX3_in, by decide +kernel, Or.inl (xTb_mem 244 (by decide +kernel) rfl)⟩, rfl, ⟨by decide, rfl⟩, rfl, clX3⟩
theorem LX3_73 : xLi RX3 73 3 14 16 := ⟨⟨RX3, TX3, 16, rfl, by decide, wX3_in, by decide +kernel, Or.inl (xTb_mem 242 (by decide +kernel) rfl)⟩, rfl, ⟨by decide, rfl⟩, rfl, clX3⟩
theorem LX3_142 : xLi RX3 142 3 13 16 := ⟨⟨RX3, TX3, 16, rfl, by decide, wX3_in, by decide +kernel, Or.inl (xTb_mem 240 (by decide +kernel) rfl)⟩, rfl, ⟨by decide, rfl⟩, rfl, clX3⟩
theorem LX4_9 : xLr RX4 9 4 0 4 := ⟨⟨RX4, TX4, 4, rfl, by decide, wX4_in, by decide +kernel, Or.inl (xTb_mem 109 (by decide +kernel) rfl)⟩, rfl, ⟨by decide, rfl⟩, rfl, clX4⟩
theorem LX4_15 : xLr RX4 15 4 1 4 := ⟨⟨RX4, TX4, 4, rfl, by decide, wX4_in, by decide +kernel, Or.inl (xTb_mem 114 (by decide +kernel) rfl)⟩, rfl, ⟨by decide, rfl⟩, rfl, clX4⟩
theorem LX4_18 : xLr RX4 18 4 2 4 := ⟨⟨RX4, TX4, 4, rfl, by decide, wX4_in, by decide +kernel, Or.inl (xTb_mem 119 (by decide +kernel) rfl)⟩, rfl, ⟨by decide, rfl⟩, rfl, clX4⟩
theorem LX4_28 : xLi RX4 28 4 3 4 := ⟨⟨RX4, TX4, 4, rfl, by decide, wX4_in, by decide +kernel, Or.inl (xTb_mem 122 (by decide +kernel) rfl)⟩, rfl, ⟨by decide, rfl⟩, rfl, clX4⟩
theorem LX5_9 : xLr RX5 9 5 2 17 := ⟨⟨RX5, TX5, 17, rfl, by decide, wX5_in, by decide +kernel, Or.inl (xTb_mem 314 (by decide +kernel) rfl)⟩, rfl, ⟨by decide, rfl⟩, rfl, clX5⟩
theorem LX5_15 : xLr RX5 15 5 3 17 := ⟨⟨RX5, TX5, 17, rfl, by decide, wX5_in, by decide +kernel, Or.inl (xTb_mem 316 (by decide +kernel) rfl)⟩, rfl, ⟨by decide, rfl⟩, rfl, clX5⟩
theorem LX5_18 : xLr RX5 18 5 4 17 := ⟨⟨RX5, TX5, 17, rfl, by decide, wX5_in, by decide +kernel, Or.inl (xTb_mem 318 (by decide +kernel) rfl)⟩, rfl, ⟨by decide, rfl⟩, rfl, clX5⟩
theorem LX5_21 : xLr RX5 21 5 0 17 := ⟨⟨RX5, TX5, 17, rfl, by decide, wX5_in, by decide +kernel, Or.inl (xTb_mem 312 (by decide +kernel) rfl)⟩, rfl, ⟨by decide, rfl⟩, rfl, clX5⟩
theorem LX5_25 : xLr RX5 25 5 1 17 := ⟨⟨RX5, TX5, 17, rfl, by decide, wX5_in, by decide +kernel, Or.inl (xTb_mem 313 (by decide +kernel) rfl)⟩, rfl, ⟨by decide, rfl⟩, rfl, clX5⟩
theorem LX5_29 : xLz RX5 29 5 5 17 := ⟨⟨RX5, TX5, 17, rfl, by decide, wX5_in, by decide +kernel, Or.inl (xTb_mem 320 (by decide +kernel) rfl)⟩, rfl, ⟨by decide, rfl⟩, rfl, clX5⟩
theorem LX5_33 : xLz RX5 33 5 6 17 := ⟨⟨RX5, TX5, 17, rfl, by decide, wX5_in, by decide +kernel, Or.inl (xTb_mem 322 (by decide +kernel) rfl)⟩, rfl, ⟨by decide, rfl⟩, rfl, clX5⟩
theorem LX5_36 : xLz RX5 36 5 7 17 := ⟨⟨RX5, TX5, 17, rfl, by decide, wX5_in, by decide +kernel, Or.inl (xTb_mem 324 (by decide +kernel) rfl)⟩, rfl, ⟨by decide, rfl⟩, rfl, clX5⟩
theorem LX5_39 : xLz RX5 39 5 8 17 := ⟨⟨RX5, TX5, 17, rfl, by decide, wX5_in, by decide +kernel, Or.inl (xTb_mem 325 (by decide +kernel) rfl)⟩, rfl, ⟨by decide, rfl⟩, rfl, clX5⟩
theorem LX5_42 : xLi RX5 42 5 9 17 := ⟨⟨RX5, TX5, 17, rfl, by decide, wX5_in, by decide +kernel, Or.inl (xTb_mem 326 (by decide +kernel) rfl)⟩, rfl, ⟨by decide, rfl⟩, rfl, clX5⟩
theorem LX5_46 : xLi RX5 46 5 10 17 := ⟨⟨RX5, TX5, 17, rfl, by decide, wX5_in, by decide +kernel, Or.inl (xTb_mem 327 (by decide +kernel) rfl)⟩, rfl, ⟨by decide, rfl⟩, rfl, clX5⟩
theorem LX5_49 : xLi RX5 49 5 11 17 := ⟨⟨RX5, TX5, 17, rfl, by decide, wX5_in, by decide +kernel, Or.inl (xTb_mem 328 (by decide +kernel) rfl)⟩, rfl, ⟨by decide, rfl⟩, rfl, clX5⟩
theorem LX5_52 : xLi RX5 52 5 12 17 := ⟨⟨RX5, TX5, 17, rfl, by decide, wX5_in, by decide +kernel, Or.inl (xTb_mem 329 (by decide +kernel) rfl)⟩, rfl, ⟨by decide, rfl⟩, rfl, clX5⟩
theorem LX5_61 : xLi RX5 61 5 13 17 := ⟨⟨RX5, TX5, 17, rfl, by decide, wX5_in, by decide +kernel, Or.inl (xTb_mem 331 (by decide +kernel) rfl)⟩, rfl, ⟨by decide, rfl⟩, rfl, clX5⟩
theorem LX5_64 : xLi RX5 64 5 14 17 := ⟨⟨RX5, TX5, 17, rfl, by decide, wX5_in, by decide +kernel, Or.inl (xTb_mem 332 (by decide +kernel) rfl)⟩, rfl, ⟨by decide, rfl⟩, rfl, clX5⟩
theorem LX5_67 : xLi RX5 67 5 15 17 := ⟨⟨RX5, TX5, 17, rfl, by decide, wX5_in, by decide +kernel, Or.inl (xTb_mem 334 (by decide +kernel) rfl)⟩, rfl, ⟨by decide, rfl⟩, rfl, clX5⟩
theorem LX5_70 : xLi RX5 70 5 16 17 := ⟨⟨RX5, TX5, 17, rfl, by decide, wX5_in, by decide +kernel, Or.inl (xTb_mem 335 (by decide +kernel) rfl)⟩, rfl, ⟨by decide, rfl⟩, rfl, clX5⟩
theorem LX6_11 : xLr RX6 11 6 0 4 := ⟨⟨RX6, TX6, 4, rfl, by decide, wX6_in, by decide +kernel, Or.inl (xTb_mem 172 (by decide +kernel) rfl)⟩, rfl, ⟨by decide, rfl⟩, rfl, clX6⟩
theorem LX6_17 : xLi RX6 17 6 2 4 := ⟨⟨RX6, TX6, 4, rfl, by decide, wX6_in, by decide +kernel, Or.inl (xTb_mem 179 (by decide +kernel) rfl)⟩, rfl, ⟨by decide, rfl⟩, rfl, clX6⟩
theorem LX6_21 : xLi RX6 21 6 3 4 := ⟨⟨RX6, TX6, 4, rfl, by decide, wX6_in, by decide +kernel, Or.inl (xTb_mem 182 (by decide +kernel) rfl)⟩, rfl, ⟨by decide, rfl⟩, rfl, clX6⟩
theorem LX6_25 : xLi RX6 25 6 1 4 := ⟨⟨RX6, TX6, 4, rfl, by decide, wX6_in, by decide +kernel, Or.inl (xTb_mem 175 (by decide +kernel) rfl)⟩, rfl, ⟨by decide, rfl⟩, rfl, clX6⟩
theorem LX7_9 : xLr RX7 9 7 0 4 := ⟨⟨RX7, TX7, 4, rfl, by decide, wX7_in, by decide +kernel, Or.inl (xTb_mem 85 (by decide +kernel) rfl)⟩, rfl, ⟨by decide, rfl⟩, rfl, clX7⟩
theorem LX7_15 : xLr RX7 15 7 1 4 := ⟨⟨RX7, TX7, 4, rfl, by decide, wX7_in, by decide +kernel, Or.inl (xTb_mem 86 (by decide +kernel) rfl)⟩, rfl, ⟨by decide, rfl⟩, rfl, clX7⟩
theorem LX7_19 : xLi RX7 19 7 2 4 := ⟨⟨RX7, TX7, 4, rfl, by decide, wX7_in, by decide +kernel, Or.inl (xTb_mem 87 (by decide +kernel) rfl)⟩, rfl, ⟨by decide, rfl⟩, rfl, clX7⟩
theorem LX7_23 : xLi RX7 23 7 3 4 := ⟨⟨RX7, TX7, 4, rfl, by decide, wX7_in, by decide +kernel, Or.inl (xTb_mem 90 (by decide +kernel) rfl)⟩, rfl, ⟨by decide, rfl⟩, rfl, clX7⟩
theorem LX9_7 : xLr RX9 7 9 1 31 := ⟨⟨RX9, TX9, 31, rfl, by decide, wX9_in, by decide +kernel, Or.inl (xTb_mem 949 (by decide +kernel) rfl)⟩, rfl, ⟨by decide, rfl⟩, rfl, clX9⟩
theorem LX9_13 : xLr RX9 13 9 3 31 := ⟨⟨RX9, TX9, 31, rfl, by decide, wX9_in, by decide +kernel, Or.inl (xTb_mem 951 (by decide +kernel) rfl)⟩, rfl, ⟨by decide, rfl⟩, rfl, clX9⟩
theorem LX9_16 : xLr RX9 16 9 4 31 := ⟨⟨RX9, TX9, 31, rfl, by decide, wX9_in, by decide +kernel, Or.inl (xTb_mem 952 (by decide +kernel) rfl)⟩, rfl, ⟨by decide, rfl⟩, rfl, clX9⟩
theorem LX9_19 : xLr RX9 19 9 6 31 := ⟨⟨RX9, TX9, 31, rfl, by decide, wX9_in, by decide +kernel, Or.inl (xTb_mem 954 (by decide +kernel) rfl)⟩, rfl, ⟨by decide, rfl⟩, rfl, clX9⟩
theorem LX9_22 : xLr RX9 22 9 7 31 := ⟨⟨RX9, TX9, 31, rfl, by decide, wX9_in, by decide +kernel, Or.inl (xTb_mem 955 (by decide +kernel) rfl)⟩, rfl, ⟨by decide, rfl⟩, rfl, clX9⟩
theorem LX9_25 : xLr RX9 25 9 8 31 := ⟨⟨RX9, TX9, 31, rfl, by decide, wX9_in, by decide +kernel, Or.inl (xTb_mem 956 (by decide +kernel) rfl)⟩, rfl, ⟨by decide, rfl⟩, rfl, clX9⟩
theorem LX9_28 : xLr RX9 28 9 9 31 := ⟨⟨RX9, TX9, 31, rfl, by decide, wX9_in, by decide +kernel, Or.inl (xTb_mem 957 (by decide +kernel) rfl)⟩, rfl, ⟨by decide, rfl⟩, rfl, clX9⟩
theorem LX9_31 : xLr RX9 31 9 10 31 := ⟨⟨RX9, TX9, 31, rfl, by decide, wX9_in, by decide +kernel, Or.inl (xTb_mem 958 (by decide +kernel) rfl)⟩, rfl, ⟨by decide, rfl⟩, rfl, clX9⟩
theorem LX9_34 : xLr RX9 34 9 12 31 := ⟨⟨RX9, TX9, 31, rfl, by decide, wX9_in, by decide +kernel, Or.inl (xTb_mem 960 (by decide +kernel) rfl)⟩, rfl, ⟨by decide, rfl⟩, rfl, clX9⟩
theorem LX9_37 : xLr RX9 37 9 13 31 := ⟨⟨RX9, TX9, 31, rfl, by decide, wX9_in, by decide +kernel, Or.inl (xTb_mem 961 (by decide +kernel) rfl)⟩, rfl, ⟨by decide, rfl⟩, rfl, clX9⟩
theorem LX9_40 : xLr RX9 40 9 14 31 := ⟨⟨RX9, TX9, 31, rfl, by decide, wX9_in, by decide +kernel, Or.inl (xTb_mem 962 (by decide +kernel) rfl)⟩, rfl, ⟨by decide, rfl⟩, rfl, clX9⟩
theorem LX9_43 : xLr RX9 43 9 24 31 := ⟨⟨RX9, TX9, 31, rfl, by decide, wX9_in, by decide +kernel, Or.inl (xTb_mem 972 (by decide +kernel) rfl)⟩, rfl, ⟨by decide, rfl⟩, rfl, clX9⟩
theorem LX9_46 : xLr RX9 46 9 25 31 := ⟨⟨RX9, TX9, 31, rfl, by decide, wX9_in, by decide +kernel, Or.inl (xTb_mem 973 (by decide +kernel) rfl)⟩, rfl, ⟨by decide, rfl⟩, rfl, clX9⟩
theorem LX9_49 : xLr RX9 49 9 27 31 := ⟨⟨RX9, TX9, 31, rfl, by decide, wX9_in, by decide +kernel, Or.inl (xTb_mem 975 (by decide +kernel) rfl)⟩, rfl, ⟨by decide, rfl⟩, rfl, clX9⟩
theorem LX9_52 : xLi RX9 52 9 2 31 := ⟨⟨RX9, TX9, 31, rfl, by decide, wX9_in, by decide +kernel, Or.inl (xTb_mem 950 (by decide +kernel) rfl)⟩, rfl, ⟨by decide, rfl⟩, rfl, clX9⟩
theorem LX9_75 : xLi RX9 75 9 0 31 := ⟨⟨RX9, TX9, 31, rfl, by decide, wX9_in, by decide +kernel, Or.inl (xTb_mem 948 (by decide +kernel) rfl)⟩, rfl, ⟨by decide, rfl⟩, rfl, clX9⟩
theorem LX9_103 : xLi RX9 103 9 5 31 := ⟨⟨RX9, TX9, 31, rfl, by decide, wX9_in, by decide +kernel, Or.inl (xTb_mem 953 (by decide +kernel) rfl)⟩, rfl, ⟨by decide, rfl⟩, rfl, clX9⟩
theorem LX9_106 : xLi RX9 106 9 11 31 := ⟨⟨RX9, TX9, 31, rfl, by decide, wX9_in, by decide +kernel, Or.inl (xTb_mem 959 (by decide +kernel) rfl)⟩, rfl, ⟨by decide, rfl⟩, rfl, clX9⟩
theorem LX9_109 : xLz RX9 109 9 15 31 := ⟨⟨RX9, TX9, 31, rfl, by decide, wX9_in, by decide +kernel, Or.inl (xTb_mem 963 (by decide +kernel) rfl)⟩, rfl, ⟨by decide, rfl⟩, rfl, clX9⟩
theorem LX9_167 : xLi RX9 167 9 28 31 := ⟨⟨RX9, TX9, 31, rfl, by decide, wX9_in, by decide +kernel, Or.inl (xTb_mem 976 (by decide +kernel) rfl)⟩, rfl, ⟨by decide, rfl⟩, rfl, clX9⟩
theorem LX9_170 : xLi RX9 170 9 29 31 := ⟨⟨RX9, TX9, 31, rfl, by decide, wX9_in, by decide +kernel, Or.inl (xTb_mem 977 (by decide +kernel) rfl)⟩, rfl, ⟨by decide, rfl⟩, rfl, clX9⟩
theorem LX9_173 : xLi RX9 173 9 30 31 := ⟨⟨RX9, TX9, 31, rfl, by decide, wX9_in, by decide +kernel, Or.inl (xTb_mem 978 (by decide +kernel) rfl)⟩, rfl, ⟨by decide, rfl⟩, rfl, clX9⟩
theorem LX9_208 : xLi RX9 208 9 16 31 := ⟨⟨RX9, TX9, 31, rfl, by decide, wX9_in, by decide +kernel, Or.inl (xTb_mem 964 (by decide +kernel) rfl)⟩, rfl, ⟨by decide, rfl⟩, rfl, clX9⟩
theorem LX9_211 : xLi RX9 211 9 17 31 := ⟨⟨RX9, TX9, 31, rfl, by decide, wX9_in, by decide +kernel, Or.inl (xTb_mem 965 (by decide +kernel) rfl)⟩, rfl, ⟨by decide, rfl⟩, rfl, clX9⟩
theorem LX9_214 : xLi RX9 214 9 18 31 := ⟨⟨RX9, TX9, 31, rfl, by decide, wX9_in, by decide +kernel, Or.inl (xTb_mem 966 (by decide +kernel) rfl)⟩, rfl, ⟨by decide, rfl⟩, rfl, clX9⟩
theorem LX9_217 : xLi RX9 217 9 19 31 := ⟨⟨RX9, TX9, 31, rfl, by decide, wX9_in, by decide +kernel, Or.inl (xTb_mem 967 (by decide +kernel) rfl)⟩, rfl, ⟨by decide, rfl⟩, rfl, clX9⟩
theorem LX9_220 : xLi RX9 220 9 20 31 := ⟨⟨RX9, TX9, 31, rfl, by decide, wX9_in, by decide +kernel, Or.inl (xTb_mem 968 (by decide +kernel) rfl)⟩, rfl, ⟨by decide, rfl⟩, rfl, clX9⟩
theorem LX9_223 : xLi RX9 223 9 21 31 := ⟨⟨RX9, TX9, 31, rfl, by decide, wX9_in, by decide +kernel, Or.inl (xTb_mem 969 (by decide +kernel) rfl)⟩, rfl, ⟨by decide, rfl⟩, rfl, clX9⟩
theorem LX9_226 : xLi RX9 226 9 22 31 := ⟨⟨RX9, TX9, 31, rfl, by decide, wX9_in, by decide +kernel, Or.inl (xTb_mem 970 (by decide +kernel) rfl)⟩, rfl, ⟨by decide, rfl⟩, rfl, clX9⟩
theorem LX9_229 : xLi RX9 229 9 23 31 := ⟨⟨RX9, TX9, 31, rfl, by decide, wX9_in, by decide +kernel, Or.inl (xTb_mem 971 (by decide +kernel) rfl)⟩, rfl, ⟨by decide, rfl⟩, rfl, clX9⟩
theorem LX9_232 : xLi RX9 232 9 26 31 := ⟨⟨RX9, TX9, 31, rfl, by decide, wX9_in, by decide +kernel, Or.inl (xTb_mem 974 (by decide +kernel) rfl)⟩, rfl, ⟨by decide, rfl⟩, rfl, clX9⟩
theorem LX8_93 : xLi RX8 93 7 3 4 := ⟨⟨RX7, TX7, 4, rfl, by decide, wX7_in, by decide +kernel, Or.inr ⟨RX8, xTn_mem 91 (by decide +kernel) rfl⟩⟩, rfl, ⟨by decide, rfl⟩, rfl, clX7⟩
theorem LX8_97 : xLi RX8 97 6 1 4 := ⟨⟨RX6, TX6, 4, rfl, by decide, wX6_in, by decide +kernel, Or.inr ⟨RX8, xTn_mem 177 (by decide +kernel) rfl⟩⟩, rfl, ⟨by decide, rfl⟩, rfl, clX6⟩
theorem LX8_100 : xLi RX8 100 2 1 2 := ⟨⟨RX2, TX2, 2, rfl, by decide, wX2_in, by decide +kernel, Or.inr ⟨RX8, xTn_mem 204 (by decide +kernel) rfl⟩⟩, rfl, ⟨by decide, rfl⟩, rfl, clX2⟩
theorem LX8_106 : xLi RX8 106 4 3 4 := ⟨⟨RX4, TX4, 4, rfl, by decide, wX4_in, by decide +kernel, Or.inr ⟨RX8, xTn_mem 126 (by decide +kernel) rfl⟩⟩, rfl, ⟨by decide, rfl⟩, rfl, clX4⟩
theorem LX8_112 : xLr RX8 112 4 0 4 := ⟨⟨RX4, TX4, 4, rfl, by decide, wX4_in, by decide +kernel, Or.inr ⟨RX8, xTn_mem 113 (by decide +kernel) rfl⟩⟩, rfl, ⟨by decide, rfl⟩, rfl, clX4⟩
theorem LX8_120 : xLr RX8 120 4 1 4 := ⟨⟨RX4, TX4, 4, rfl, by decide, wX4_in, by decide +kernel, Or.inr ⟨RX8, xTn_mem 117 (by decide +kernel) rfl⟩⟩, rfl, ⟨by decide, rfl⟩, rfl, clX4⟩
theorem LX8_123 : xLr RX8 123 4 2 4 := ⟨⟨RX4, TX4, 4, rfl, by decide, wX4_in, by decide +kernel, Or.inr ⟨RX8, xTn_mem 121 (by decide +kernel) rfl⟩⟩, rfl, ⟨by decide, rfl⟩, rfl, clX4⟩
theorem LX8_127 : xLr RX8 127 3 8 16 := ⟨⟨RX3, TX3, 16, rfl, by decide, wX3_in, by decide +kernel, Or.inr ⟨RX8, xTn_mem 230 (by decide +kernel) rfl⟩⟩, rfl, ⟨by decide, rfl⟩, rfl, clX3⟩
theorem LX8_130 : xLr RX8 130 3 9 16 := ⟨⟨RX3, TX3, 16, rfl, by decide, wX3_in, by decide +kernel, Or.inr ⟨RX8, xTn_mem 232 (by decide +kernel) rfl⟩⟩, rfl, ⟨by decide, rfl⟩, rfl, clX3⟩
theorem LX8_157 : xLi RX8 157 0 2 6 := ⟨⟨RX0, TX0, 6, rfl, by decide, wX0_in, by decide +kernel, Or.inr ⟨RX8, xTn_mem 287 (by decide +kernel) rfl⟩⟩, rfl, ⟨by decide, rfl⟩, rfl, clX0⟩
theorem LX8_160 : xLi RX8 160 0 3 6 := ⟨⟨RX0, TX0, 6, rfl, by decide, wX0_in, by decide +kernel, Or.inr ⟨RX8, xTn_mem 289 (by decide +kernel) rfl⟩⟩, rfl, ⟨by decide, rfl⟩, rfl, clX0⟩
theorem LX8_163 : xLi RX8 163 0 4 6 := ⟨⟨RX0, TX0, 6, rfl, by decide, wX0_in, by decide +kernel, Or.inr ⟨RX8, xTn_mem 291 (by decide +kernel) rfl⟩⟩, rfl, ⟨by decide, rfl⟩, rfl, clX0⟩
theorem LX8_169 : xLr RX8 169 6 0 4 := ⟨⟨RX6, TX6, 4, rfl, by decide, wX6_in, by decide +kernel, Or.inr ⟨RX8, xTn_mem 174 (by decide +kernel) rfl⟩⟩, rfl, ⟨by decide, rfl⟩, rfl, clX6⟩
theorem LX8_173 : xLi RX8 173 1 2 4 := ⟨⟨RX1, TX1, 4, rfl, by decide, wX1_in, by decide +kernel, Or.inr ⟨RX8, xTn_mem 158 (by decide +kernel) rfl⟩⟩, rfl, ⟨by decide, rfl⟩, rfl, clX1⟩
theorem LX8_176 : xLi RX8 176 1 3 4 := ⟨⟨RX1, TX1, 4, rfl, by decide, wX1_in, by decide +kernel, Or.inr ⟨RX8, xTn_mem 162 (by decide +kernel) rfl⟩⟩, rfl, ⟨by decide, rfl⟩, rfl, clX1⟩
theorem LX8_184 : xLr RX8 184 1 0 4 := ⟨⟨RX1, TX1, 4, rfl, by decide, wX1_in, by decide +kernel, Or.inr ⟨RX8, xTn_mem 152 (by decide +kernel) rfl⟩⟩, rfl, ⟨by decide, rfl⟩, rfl, clX1⟩
theorem LX8_185 : xLr RX8 185 1 1 4 := ⟨⟨RX1, TX1, 4, rfl, by decide, wX1_in, by decide +kernel, Or.inr ⟨RX8, xTn_mem 154 (by decide +kernel) rfl⟩⟩, rfl, ⟨by decide, rfl⟩, rfl, clX1⟩
theorem LX8_186 : xLi RX8 186 6 2 4 := ⟨⟨RX6, TX6, 4, rfl, by decide, wX6_in, by decide +kernel, Or.inr ⟨RX8, xTn_mem 181 (by decide +kernel) rfl⟩⟩, rfl, ⟨by decide, rfl⟩, rfl, clX6⟩
theorem LX8_189 : xLi RX8 189 6 3 4 := ⟨⟨RX6, TX6, 4, rfl, by decide, wX6_in, by decide +kernel, Or.inr ⟨RX8, xTn_mem 183 (by decide +kernel) rfl⟩⟩, rfl, ⟨by decide, rfl⟩, rfl, clX6⟩
theorem LX8_195 : xLi RX8 195 3 13 16 := ⟨⟨RX3, TX3, 16, rfl, by decide, wX3_in, by decide +kernel, Or.inr ⟨RX8, xTn_mem 241 (by decide +kernel) rfl⟩⟩, rfl, ⟨by decide, rfl⟩, rfl, clX3⟩
theorem LX8_199 : xLi RX8 199 3 14 16 := ⟨⟨RX3, TX3, 16, rfl, by decide, wX3_in, by decide +kernel, Or.inr ⟨RX8, xTn_mem 243 (by decide +kernel) rfl⟩⟩, rfl, ⟨by decide, rfl⟩, rfl, clX3⟩
theorem LX8_209 : xLr RX8 209 3 12 16 := ⟨⟨RX3, TX3, 16, rfl, by decide, wX3_in, by decide +kernel, Or.inr ⟨RX8, xTn_mem 239 (by decide +kernel) rfl⟩⟩, rfl, ⟨by decide, rfl⟩, rfl, clX3⟩
theorem LX8_212 : xLr RX8 212 3 10 16 := ⟨⟨RX3, TX3, 16, rfl, by decide, wX3_in, by decide +kernel, Or.inr ⟨RX8, xTn_mem 235 (by decide +kernel) rfl⟩⟩, rfl, ⟨by decide, rfl⟩, rfl, clX3⟩
theorem LX8_227 : xLr RX8 227 3 11 16 := ⟨⟨RX3, TX3, 16, rfl, by decide, wX3_in, by decide +kernel, Or.inr ⟨RX8, xTn_mem 237 (by decide +kernel) rfl⟩⟩, rfl, ⟨by decide, rfl⟩, rfl, clX3⟩
theorem LX8_237 : xLz RX8 237 5 5 17 := ⟨⟨RX5, TX5, 17, rfl, by decide, wX5_in, by decide +kernel, Or.inr ⟨RX8, xTn_mem 321 (by decide +kernel) rfl⟩⟩, rfl, ⟨by decide, rfl⟩, rfl, clX5⟩
theorem LX8_241 : xLz RX8 241 5 6 17 := ⟨⟨RX5, TX5, 17, rfl, by decide, wX5_in, by decide +kernel, Or.inr ⟨RX8, xTn_mem 323 (by decide +kernel) rfl⟩⟩, rfl, ⟨by decide, rfl⟩, rfl, clX5⟩
theorem LX8_250 : xLi RX8 250 5 14 17 := ⟨⟨RX5, TX5, 17, rfl, by decide, wX5_in, by decide +kernel, Or.inr ⟨RX8, xTn_mem 333 (by decide +kernel) rfl⟩⟩, rfl, ⟨by decide, rfl⟩, rfl, clX5⟩
theorem LX8_253 : xLr RX8 253 5 4 17 := ⟨⟨RX5, TX5, 17, rfl, by decide, wX5_in, by decide +kernel, Or.inr ⟨RX8, xTn_mem 319 (by decide +kernel) rfl⟩⟩, rfl, ⟨by decide, rfl⟩, rfl, clX5⟩
theorem LX8_256 : xLr RX8 256 5 2 17 := ⟨⟨RX5, TX5, 17, rfl, by decide, wX5_in, by decide +kernel, Or.inr ⟨RX8, xTn_mem 315 (by decide +kernel) rfl⟩⟩, rfl, ⟨by decide, rfl⟩, rfl, clX5⟩
theorem LX8_259 : xLi RX8 259 5 12 17 := ⟨⟨RX5, TX5, 17, rfl, by decide, wX5_in, by decide +kernel, Or.inr ⟨RX8, xTn_mem 330 (by decide +kernel) rfl⟩⟩, rfl, ⟨by decide, rfl⟩, rfl, clX5⟩
theorem LX8_262 : xLr RX8 262 5 3 17 := ⟨⟨RX5, TX5, 17, rfl, by decide, wX5_in, by decide +kernel, Or.inr ⟨RX8, xTn_mem 317 (by decide +kernel) rfl⟩⟩, rfl, ⟨by decide, rfl⟩, rfl, clX5⟩
theorem LX8_268 : xLi RX8 268 7 2 4 := ⟨⟨RX7, TX7, 4, rfl, by decide, wX7_in, by decide +kernel, Or.inr ⟨RX8, xTn_mem 88 (by decide +kernel) rfl⟩⟩, rfl, ⟨by decide, rfl⟩, rfl, clX7⟩
theorem LX0_23 : xLi RX0 23 6 1 4 := ⟨⟨RX6, TX6, 4, rfl, by decide, wX6_in, by decide +kernel, Or.inr ⟨RX8, xTn_mem 176 (by decide +kernel) rfl⟩⟩, rfl, ⟨by decide, rfl⟩, rfl, clX6⟩
theorem LX0_32 : xLr RX0 32 3 0 16 := ⟨⟨RX3, TX3, 16, rfl, by decide, wX3_in, by decide +kernel, Or.inr ⟨RX8, xTn_mem 221 (by decide +kernel) rfl⟩⟩, rfl, ⟨by decide, rfl⟩, rfl, clX3⟩
theorem LX0_38 : xLi RX0 38 4 3 4 := ⟨⟨RX4, TX4, 4, rfl, by decide, wX4_in, by decide +kernel, Or.inr ⟨RX8, xTn_mem 124 (by decide +kernel) rfl⟩⟩, rfl, ⟨by decide, rfl⟩, rfl, clX4⟩
theorem LX1_25 : xLr RX1 25 4 0 4 := ⟨⟨RX4, TX4, 4, rfl, by decide, wX4_in, by decide +kernel, Or.inr ⟨RX8, xTn_mem 110 (by decide +kernel) rfl⟩⟩, rfl, ⟨by decide, rfl⟩, rfl, clX4⟩
theorem LX1_28 : xLr RX1 28 4 1 4 := ⟨⟨RX4, TX4, 4, rfl, by decide, wX4_in, by decide +kernel, Or.inr ⟨RX8, xTn_mem 115 (by decide +kernel) rfl⟩⟩, rfl, ⟨by decide, rfl⟩, rfl, clX4⟩
theorem LX1_29 : xLi RX1 29 4 3 4 := ⟨⟨RX4, TX4, 4, rfl, by decide, wX4_in, by decide +kernel, Or.inr ⟨RX8, xTn_mem 125 (by decide +kernel) rfl⟩⟩, rfl, ⟨by decide, rfl⟩, rfl, clX4⟩
theorem LX3_59 : xLi RX3 59 6 2 4 := ⟨⟨RX6, TX6, 4, rfl, by decide, wX6_in, by decide +kernel, Or.inr ⟨RX8, xTn_mem 180 (by decide +kernel) rfl⟩⟩, rfl, ⟨by decide, rfl⟩, rfl, clX6⟩
theorem LX3_68 : xLi RX3 68 4 3 4 := ⟨⟨RX4, TX4, 4, rfl, by decide, wX4_in, by decide +kernel, Or.inr ⟨RX8, xTn_mem 123 (by decide +kernel) rfl⟩⟩, rfl, ⟨by decide, rfl⟩, rfl, clX4⟩
theorem LX3_88 : xLr RX3 88 4 0 4 := ⟨⟨RX4, TX4, 4, rfl, by decide, wX4_in, by decide +kernel, Or.inr ⟨RX8, xTn_mem 111 (by decide +kernel) rfl⟩⟩, rfl, ⟨by decide, rfl⟩, rfl, clX4⟩
theorem LX3_111 : xLr RX3 111 4 2 4 := ⟨⟨RX4, TX4, 4, rfl, by decide, wX4_in, by decide +kernel, Or.inr ⟨RX8, xTn_mem 120 (by decide +kernel) rfl⟩⟩, rfl, ⟨by decide, rfl⟩, rfl, clX4⟩
theorem LX3_118 : xLi RX3 118 6 1 4 := ⟨⟨RX6, TX6, 4, rfl, by decide, wX6_in, by decide +kernel, Or.inr ⟨RX8, xTn_mem 178 (by decide +kernel) rfl⟩⟩, rfl, ⟨by decide, rfl⟩, rfl, clX6⟩
theorem LX3_125 : xLr RX3 125 6 0 4 := ⟨⟨RX6, TX6, 4, rfl, by decide, wX6_in, by decide +kernel, Or.inr ⟨RX8, xTn_mem 173 (by decide +kernel) rfl⟩⟩, rfl, ⟨by decide, rfl⟩, rfl, clX6⟩
theorem LX3_133 : xLi RX3 133 1 3 4 := ⟨⟨RX1, TX1, 4, rfl, by decide, wX1_in, by decide +kernel, Or.inr ⟨RX8, xTn_mem 160 (by decide +kernel) rfl⟩⟩, rfl, ⟨by decide, rfl⟩, rfl, clX1⟩
theorem LX3_139 : xLi RX3 139 1 2 4 := ⟨⟨RX1, TX1, 4, rfl, by decide, wX1_in, by decide +kernel, Or.inr ⟨RX8, xTn_mem 156 (by decide +kernel) rfl⟩⟩, rfl, ⟨by decide, rfl⟩, rfl, clX1⟩
theorem LX3_150 : xLr RX3 150 4 1 4 := ⟨⟨RX4, TX4, 4, rfl, by decide, wX4_in, by decide +kernel, Or.inr ⟨RX8, xTn_mem 118 (by decide +kernel) rfl⟩⟩, rfl, ⟨by decide, rfl⟩, rfl, clX4⟩
theorem LX4_22 : xLi RX4 22 7 3 4 := ⟨⟨RX7, TX7, 4, rfl, by decide, wX7_in, by decide +kernel, Or.inr ⟨RX8, xTn_mem 89 (by decide +kernel) rfl⟩⟩, rfl, ⟨by decide, rfl⟩, rfl, clX7⟩
theorem LX5_73 : xLr RX5 73 4 0 4 := ⟨⟨RX4, TX4, 4, rfl, by decide, wX4_in, by decide +kernel, Or.inr ⟨RX8, xTn_mem 112 (by decide +kernel) rfl⟩⟩, rfl, ⟨by decide, rfl⟩, rfl, clX4⟩
theorem LX5_91 : xLr RX5 91 4 1 4 := ⟨⟨RX4, TX4, 4, rfl, by decide, wX4_in, by decide +kernel, Or.inr ⟨RX8, xTn_mem 116 (by decide +kernel) rfl⟩⟩, rfl, ⟨by decide, rfl⟩, rfl, clX4⟩
theorem LX5_118 : xLr RX5 118 3 10 16 := ⟨⟨RX3, TX3, 16, rfl, by decide, wX3_in, by decide +kernel, Or.inr ⟨RX8, xTn_mem 234 (by decide +kernel) rfl⟩⟩, rfl, ⟨by decide, rfl⟩, rfl, clX3⟩
theorem LX5_121 : xLi RX5 121 4 3 4 := ⟨⟨RX4, TX4, 4, rfl, by decide, wX4_in, by decide +kernel, Or.inr ⟨RX8, xTn_mem 127 (by decide +kernel) rfl⟩⟩, rfl, ⟨by decide, rfl⟩, rfl, clX4⟩
theorem LX6_36 : xLi RX6 36 1 2 4 := ⟨⟨RX1, TX1, 4, rfl, by decide, wX1_in, by decide +kernel, Or.inr ⟨RX8, xTn_mem 157 (by decide +kernel) rfl⟩⟩, rfl, ⟨by decide, rfl⟩, rfl, clX1⟩
theorem LX6_39 : xLi RX6 39 1 3 4 := ⟨⟨RX1, TX1, 4, rfl, by decide, wX1_in, by decide +kernel, Or.inr ⟨RX8, xTn_mem 161 (by decide +kernel) rfl⟩⟩, rfl, ⟨by decide, rfl⟩, rfl, clX1⟩
theorem CX8_25 : xML RX8 25 yX6_init := Or.inl (xTb_mem 140 (by decide +kernel) rfl)
theorem CX8_32 : xML RX8 32 yX2_init := Or.inl (xTb_mem 195 (by decide +kernel) rfl)
theorem CX8_39 : xML RX8 39 yX3_init := Or.inl (xTb_mem 212 (by decide +kernel) rfl)
theorem CX8_48 : xML RX8 48 yX0_init := Or.inl (xTb_mem 280 (by decide +kernel) rfl)
theorem CX8_57 : xML RX8 57 yX5_init := Or.inl (xTb_mem 308 (by decide +kernel) rfl)
theorem CX8_66 : xML RX8 66 yJ0_length_8abf5 := Or.inl (xTb_mem 372 (by decide +kernel) rfl)
theorem CX8_72 : xML RX8 72 yJ0_charAt_5068e := Or.inl (xTb_mem 382 (by decide +kernel) rfl)
theorem CX8_76 : xML RX8 76 yX7_append := Or.inl (xTb_mem 420 (by decide +kernel) rfl)
theorem CX8_80 : xML RX8 80 yX7_findFault := Or.inl (xTb_mem 424 (by decide +kernel) rfl)
theorem CX8_83 : xML RX8 83 yX4_take := Or.inl (xTb_mem 510 (by decide +kernel) rfl)
theorem CX8_87 : xML RX8 87 yX7_empty := Or.inl (xTb_mem 521 (by decide +kernel) rfl)
theorem CX8_90 : xML RX8 90 yX3_reckon := Or.inl (xTb_mem 525 (by decide +kernel) rfl)
theorem CX8_103 : xML RX8 103 yX8_settle := Or.inl (xTb_mem 624 (by decide +kernel) rfl)
theorem CX8_108 : xML RX8 108 yX4_has := Or.inl (xTb_mem 636 (by decide +kernel) rfl)
theorem CX8_116 : xML RX8 116 yX8_letterOf := Or.inl (xTb_mem 637 (by decide +kernel) rfl)
theorem CX8_133 : xML RX8 133 yX8_hindranceTo := Or.inl (xTb_mem 645 (by decide +kernel) rfl)
theorem CX8_137 : xML RX8 137 yX2_keep := Or.inl (xTb_mem 658 (by decide +kernel) rfl)
theorem CX8_141 : xML RX8 141 yX6_append := Or.inl (xTb_mem 670 (by decide +kernel) rfl)
theorem CX8_144 : xML RX8 144 yX6_has := Or.inl (xTb_mem 682 (by decide +kernel) rfl)
theorem CX8_145 : xML RX8 145 yX6_remove := Or.inl (xTb_mem 686 (by decide +kernel) rfl)
theorem CX8_149 : xML RX8 149 yX3_gainOf := Or.inl (xTb_mem 694 (by decide +kernel) rfl)
theorem CX8_153 : xML RX8 153 yX0_find := Or.inl (xTb_mem 711 (by decide +kernel) rfl)
theorem CX8_166 : xML RX8 166 yX5_end := Or.inl (xTb_mem 628 (by decide +kernel) rfl)
theorem CX8_177 : xML RX8 177 yX3_referencesTo := Or.inl (xTb_mem 733 (by decide +kernel) rfl)
theorem CX8_180 : xML RX8 180 yX3_matchesOf := Or.inl (xTb_mem 737 (by decide +kernel) rfl)
theorem CX8_192 : xML RX8 192 yX2_giveBack := Or.inl (xTb_mem 754 (by decide +kernel) rfl)
theorem CX8_196 : xML RX8 196 yX6_tableNibbles := Or.inl (xTb_mem 762 (by decide +kernel) rfl)
theorem CX8_202 : xML RX8 202 yX4_plainNibbles := Or.inl (xTb_mem 767 (by decide +kernel) rfl)
theorem CX8_205 : xML RX8 205 yX3_references := Or.inl (xTb_mem 772 (by decide +kernel) rfl)
theorem CX8_215 : xML RX8 215 yX3_instructionOf := Or.inl (xTb_mem 788 (by decide +kernel) rfl)
theorem CX8_218 : xML RX8 218 yX3_lineAddress := Or.inl (xTb_mem 796 (by decide +kernel) rfl)
theorem CX8_221 : xML RX8 221 yX3_lineNibbles := Or.inl (xTb_mem 804 (by decide +kernel) rfl)
theorem CX8_224 : xML RX8 224 yX3_firstOf := Or.inl (xTb_mem 809 (by decide +kernel) rfl)
theorem CX8_230 : xML RX8 230 yX3_lineOf := Or.inl (xTb_mem 814 (by decide +kernel) rfl)
theorem CX8_233 : xML RX8 233 yX5_begin := Or.inl (xTb_mem 819 (by decide +kernel) rfl)
theorem CX8_244 : xML RX8 244 yX5_go := Or.inl (xTb_mem 828 (by decide +kernel) rfl)
theorem CX8_247 : xML RX8 247 yX5_tell := Or.inl (xTb_mem 873 (by decide +kernel) rfl)
theorem CX8_265 : xML RX8 265 yX4_targetCount := Or.inl (xTb_mem 893 (by decide +kernel) rfl)
theorem CX8_269 : xML RX8 269 yX3_isSequence := Or.inl (xTb_mem 649 (by decide +kernel) rfl)
theorem CX8_273 : xML RX8 273 yX6_hasAlike := Or.inl (xTb_mem 653 (by decide +kernel) rfl)
theorem CX8_279 : xML RX8 279 yX8_isSimple := Or.inl (xTb_mem 551 (by decide +kernel) rfl)
theorem CX8_282 : xML RX8 282 yX8_hasTarget := Or.inl (xTb_mem 552 (by decide +kernel) rfl)
theorem CX0_28 : xML RX0 28 yX0_tryAll := Or.inl (xTb_mem 715 (by decide +kernel) rfl)
theorem CX0_43 : xML RX0 43 yX3_isSequence := Or.inl (xTb_mem 719 (by decide +kernel) rfl)
theorem CX0_47 : xML RX0 47 yX3_mostGainOf := Or.inl (xTb_mem 720 (by decide +kernel) rfl)
theorem CX0_51 : xML RX0 51 yX3_gainOf := Or.inl (xTb_mem 728 (by decide +kernel) rfl)
theorem CX2_17 : xML RX2 17 yX6_init := Or.inl (xTb_mem 201 (by decide +kernel) rfl)
theorem CX2_22 : xML RX2 22 yX6_copy := Or.inl (xTb_mem 662 (by decide +kernel) rfl)
theorem CX3_76 : xML RX3 76 yX3_measureReaches := Or.inl (xTb_mem 529 (by decide +kernel) rfl)
theorem CX3_79 : xML RX3 79 yX3_findBest := Or.inl (xTb_mem 544 (by decide +kernel) rfl)
theorem CX3_82 : xML RX3 82 yX3_placeAll := Or.inl (xTb_mem 568 (by decide +kernel) rfl)
theorem CX3_85 : xML RX3 85 yX3_layNibbles := Or.inl (xTb_mem 572 (by decide +kernel) rfl)
theorem CX3_95 : xML RX3 95 yX3_leadsOn := Or.inl (xTb_mem 534 (by decide +kernel) rfl)
theorem CX3_104 : xML RX3 104 yX4_has := Or.inl (xTb_mem 538 (by decide +kernel) rfl)
theorem CX3_107 : xML RX3 107 yX3_lineOf := Or.inl (xTb_mem 539 (by decide +kernel) rfl)
theorem CX3_121 : xML RX3 121 yX3_offer := Or.inl (xTb_mem 553 (by decide +kernel) rfl)
theorem CX3_129 : xML RX3 129 yX3_matches := Or.inl (xTb_mem 557 (by decide +kernel) rfl)
theorem CX3_143 : xML RX3 143 yX3_layReference := Or.inl (xTb_mem 576 (by decide +kernel) rfl)
theorem CX3_147 : xML RX3 147 yX3_layAlone := Or.inl (xTb_mem 580 (by decide +kernel) rfl)
theorem CX3_156 : xML RX3 156 yX1_fits := Or.inl (xTb_mem 561 (by decide +kernel) rfl)
theorem CX3_160 : xML RX3 160 yX1_take := Or.inl (xTb_mem 698 (by decide +kernel) rfl)
theorem CX3_164 : xML RX3 164 yX3_fewestWithCandidate := Or.inl (xTb_mem 699 (by decide +kernel) rfl)
theorem CX3_171 : xML RX3 171 yX3_matchesOf := Or.inl (xTb_mem 724 (by decide +kernel) rfl)
theorem CX3_175 : xML RX3 175 yX3_firstOf := Or.inl (xTb_mem 800 (by decide +kernel) rfl)
theorem CX3_178 : xML RX3 178 yX3_lineAddress := Or.inl (xTb_mem 808 (by decide +kernel) rfl)
theorem CX4_31 : xML RX4 31 yX7_kindOf := Or.inl (xTb_mem 514 (by decide +kernel) rfl)
theorem CX4_35 : xML RX4 35 yX7_valueOf := Or.inl (xTb_mem 515 (by decide +kernel) rfl)
theorem CX4_42 : xML RX4 42 yX4_has := Or.inl (xTb_mem 517 (by decide +kernel) rfl)
theorem CX5_78 : xML RX5 78 yX5_takeStep := Or.inl (xTb_mem 832 (by decide +kernel) rfl)
theorem CX5_81 : xML RX5 81 yX3_lineOf := Or.inl (xTb_mem 836 (by decide +kernel) rfl)
theorem CX5_87 : xML RX5 87 yX5_useLine := Or.inl (xTb_mem 837 (by decide +kernel) rfl)
theorem CX5_98 : xML RX5 98 yX5_work := Or.inl (xTb_mem 847 (by decide +kernel) rfl)
theorem CX5_102 : xML RX5 102 yX5_turn := Or.inl (xTb_mem 856 (by decide +kernel) rfl)
theorem CX5_105 : xML RX5 105 yX4_has := Or.inl (xTb_mem 864 (by decide +kernel) rfl)
theorem CX5_109 : xML RX5 109 yX5_tellOut := Or.inl (xTb_mem 852 (by decide +kernel) rfl)
theorem CX5_112 : xML RX5 112 yX5_addressOf := Or.inl (xTb_mem 860 (by decide +kernel) rfl)
theorem CX5_115 : xML RX5 115 yX5_jumpBySum := Or.inl (xTb_mem 865 (by decide +kernel) rfl)
theorem CX5_124 : xML RX5 124 yX5_placeOf := Or.inl (xTb_mem 841 (by decide +kernel) rfl)
theorem CX5_127 : xML RX5 127 yX3_lineNibbles := Or.inl (xTb_mem 845 (by decide +kernel) rfl)
theorem CX6_28 : xML RX6 28 yX1_copy := Or.inl (xTb_mem 666 (by decide +kernel) rfl)
theorem CX6_32 : xML RX6 32 yX1_take := Or.inl (xTb_mem 674 (by decide +kernel) rfl)
theorem CX6_42 : xML RX6 42 yX1_fits := Or.inl (xTb_mem 657 (by decide +kernel) rfl)
theorem CX7_26 : xML RX7 26 yX7_widthAt := Or.inl (xTb_mem 428 (by decide +kernel) rfl)
theorem CX7_30 : xML RX7 30 yX7_findLostTarget := Or.inl (xTb_mem 498 (by decide +kernel) rfl)
theorem CX7_34 : xML RX7 34 yX7_kindOf := Or.inl (xTb_mem 502 (by decide +kernel) rfl)
theorem CX7_41 : xML RX7 41 yX7_valueOf := Or.inl (xTb_mem 506 (by decide +kernel) rfl)
theorem CX7_46 : xML RX7 46 yJ0_indexOf_0f7a4 := Or.inl (xTb_mem 433 (by decide +kernel) rfl)
theorem CX9_56 : xML RX9 56 yX9_told := Or.inl (xTb_mem 903 (by decide +kernel) rfl)
theorem CX9_60 : xML RX9 60 yX9_begin := Or.inl (xTb_mem 911 (by decide +kernel) rfl)
theorem CX9_63 : xML RX9 63 yX9_oneIs := Or.inl (xTb_mem 907 (by decide +kernel) rfl)
theorem CX9_71 : xML RX9 71 yX9_in := Or.inl (xTb_mem 1048 (by decide +kernel) rfl)
theorem CX9_82 : xML RX9 82 yX9_figureAt := Or.inl (xTb_mem 1063 (by decide +kernel) rfl)
theorem CX9_86 : xML RX9 86 yX9_isSimple := Or.inl (xTb_mem 929 (by decide +kernel) rfl)
theorem CX9_90 : xML RX9 90 yX9_hasPlace := Or.inl (xTb_mem 915 (by decide +kernel) rfl)
theorem CX9_93 : xML RX9 93 yX9_readOne := Or.inl (xTb_mem 1059 (by decide +kernel) rfl)
theorem CX9_96 : xML RX9 96 yX9_lettersOf := Or.inl (xTb_mem 1069 (by decide +kernel) rfl)
theorem CX9_99 : xML RX9 99 yX9_fault := Or.inl (xTb_mem 1076 (by decide +kernel) rfl)
theorem CX9_113 : xML RX9 113 yX9_cover := Or.inl (xTb_mem 918 (by decide +kernel) rfl)
theorem CX9_116 : xML RX9 116 yX9_entryAt := Or.inl (xTb_mem 936 (by decide +kernel) rfl)
theorem CX9_119 : xML RX9 119 yX9_isSequence := Or.inl (xTb_mem 940 (by decide +kernel) rfl)
theorem CX9_123 : xML RX9 123 yX9_lays := Or.inl (xTb_mem 1096 (by decide +kernel) rfl)
theorem CX9_127 : xML RX9 127 yX9_own := Or.inl (xTb_mem 926 (by decide +kernel) rfl)
theorem CX9_130 : xML RX9 130 yX9_matches := Or.inl (xTb_mem 932 (by decide +kernel) rfl)
theorem CX9_133 : xML RX9 133 yX9_refers := Or.inl (xTb_mem 944 (by decide +kernel) rfl)
theorem CX9_136 : xML RX9 136 yX9_coverWith := Or.inl (xTb_mem 922 (by decide +kernel) rfl)
theorem CX9_140 : xML RX9 140 yX9_isCode := Or.inl (xTb_mem 1085 (by decide +kernel) rfl)
theorem CX9_149 : xML RX9 149 yX9_hasLike := Or.inl (xTb_mem 1092 (by decide +kernel) rfl)
theorem CX9_153 : xML RX9 153 yX9_refusal := Or.inl (xTb_mem 1081 (by decide +kernel) rfl)
theorem CX9_157 : xML RX9 157 yX9_note := Or.inl (xTb_mem 1100 (by decide +kernel) rfl)
theorem CX9_160 : xML RX9 160 yX9_isEntry := Or.inl (xTb_mem 1108 (by decide +kernel) rfl)
theorem CX9_163 : xML RX9 163 yX9_gainOf := Or.inl (xTb_mem 1116 (by decide +kernel) rfl)
theorem CX9_178 : xML RX9 178 yX9_chooses := Or.inl (xTb_mem 1126 (by decide +kernel) rfl)
theorem CX9_184 : xML RX9 184 yX9_headOf := Or.inl (xTb_mem 1155 (by decide +kernel) rfl)
theorem CX9_189 : xML RX9 189 yX9_tableSize := Or.inl (xTb_mem 1164 (by decide +kernel) rfl)
theorem CX9_192 : xML RX9 192 yX9_lines := Or.inl (xTb_mem 1168 (by decide +kernel) rfl)
theorem CX9_195 : xML RX9 195 yX9_references := Or.inl (xTb_mem 1172 (by decide +kernel) rfl)
theorem CX9_199 : xML RX9 199 yX9_kindOf := Or.inl (xTb_mem 1184 (by decide +kernel) rfl)
theorem CX9_202 : xML RX9 202 yX9_nibbleOf := Or.inl (xTb_mem 1180 (by decide +kernel) rfl)
theorem CX9_205 : xML RX9 205 yX9_lineEnd := Or.inl (xTb_mem 1199 (by decide +kernel) rfl)
theorem CX9_235 : xML RX9 235 yX9_placeOf := Or.inl (xTb_mem 1234 (by decide +kernel) rfl)
theorem CX9_238 : xML RX9 238 yX9_line := Or.inl (xTb_mem 1228 (by decide +kernel) rfl)
theorem CX9_242 : xML RX9 242 yX9_holdLine := Or.inl (xTb_mem 1224 (by decide +kernel) rfl)
theorem CX9_246 : xML RX9 246 yX9_simple := Or.inl (xTb_mem 1229 (by decide +kernel) rfl)
theorem CX9_249 : xML RX9 249 yX9_byAddress := Or.inl (xTb_mem 1238 (by decide +kernel) rfl)
theorem CX9_254 : xML RX9 254 yX9_goesOn := Or.inl (xTb_mem 1216 (by decide +kernel) rfl)
theorem CX9_257 : xML RX9 257 yX9_oneStep := Or.inl (xTb_mem 1220 (by decide +kernel) rfl)
theorem CJ0_335 : xML RJ0 335 yJ0_coder_7d493 := Or.inl (xTb_mem 376 (by decide +kernel) rfl)
theorem CJ0_492 : xML RJ0 492 yJ0_isLatin1_aae02 := Or.inl (xTb_mem 386 (by decide +kernel) rfl)
theorem CJ0_495 : xML RJ0 495 yJ1_charAt_3b067 := Or.inl (xTb_mem 390 (by decide +kernel) rfl)
theorem CJ0_505 : xML RJ0 505 yJ0_length_8abf5 := Or.inl (xTb_mem 441 (by decide +kernel) rfl)
theorem CJ0_633 : xML RJ0 633 yJ0_indexOf_7cf53 := Or.inl (xTb_mem 437 (by decide +kernel) rfl)
theorem CJ0_637 : xML RJ0 637 yJ1_indexOf_4cfef := Or.inl (xTb_mem 442 (by decide +kernel) rfl)
theorem CJ1_9 : xML RJ1 9 yJ0_checkIndex_df160 := Or.inl (xTb_mem 393 (by decide +kernel) rfl)
theorem CJ1_88 : xML RJ1 88 yJ1_canEncode_9a6ad := Or.inl (xTb_mem 445 (by decide +kernel) rfl)
theorem CJ1_95 : xML RJ1 95 yJ1_indexOfChar_4cfef := Or.inl (xTb_mem 454 (by decide +kernel) rfl)
theorem CJ2_241 : xML RJ2 241 yJ0_checkBoundsBeginEnd_23922 := Or.inl (xTb_mem 469 (by decide +kernel) rfl)
theorem CJ2_414 : xML RJ2 414 yJ0_checkIndex_df160 := Or.inl (xTb_mem 410 (by decide +kernel) rfl)
theorem CX8_11 : xML RX8 11 yX7_init := Or.inr ⟨RX8, xTn_mem 81 (by decide +kernel) rfl⟩
theorem CX8_18 : xML RX8 18 yX4_init := Or.inr ⟨RX8, xTn_mem 105 (by decide +kernel) rfl⟩
theorem CX3_31 : xML RX3 31 yX1_init := Or.inr ⟨RX8, xTn_mem 219 (by decide +kernel) rfl⟩
theorem CX3_91 : xML RX3 91 yX8_isSimple := Or.inr ⟨RX8, xTn_mem 533 (by decide +kernel) rfl⟩
theorem CX3_115 : xML RX3 115 yX8_nibblesOf := Or.inr ⟨RX8, xTn_mem 548 (by decide +kernel) rfl⟩
theorem CX3_136 : xML RX3 136 yX8_referenceNibbles := Or.inr ⟨RX8, xTn_mem 565 (by decide +kernel) rfl⟩
theorem CX3_153 : xML RX3 153 yX8_hasTarget := Or.inr ⟨RX8, xTn_mem 584 (by decide +kernel) rfl⟩
theorem CX3_168 : xML RX3 168 yX8_entryNibbles := Or.inr ⟨RX8, xTn_mem 703 (by decide +kernel) rfl⟩
theorem CX4_38 : xML RX4 38 yX8_hasTarget := Or.inr ⟨RX8, xTn_mem 516 (by decide +kernel) rfl⟩
theorem CX4_45 : xML RX4 45 yX8_nibblesOf := Or.inr ⟨RX8, xTn_mem 771 (by decide +kernel) rfl⟩
theorem CX5_94 : xML RX5 94 yX8_isSimple := Or.inr ⟨RX8, xTn_mem 846 (by decide +kernel) rfl⟩
theorem CX6_24 : xML RX6 24 yX1_init := Or.inr ⟨RX8, xTn_mem 147 (by decide +kernel) rfl⟩
theorem CX6_46 : xML RX6 46 yX8_entryNibbles := Or.inr ⟨RX8, xTn_mem 766 (by decide +kernel) rfl⟩
theorem CX7_37 : xML RX7 37 yX8_hasTarget := Or.inr ⟨RX8, xTn_mem 492 (by decide +kernel) rfl⟩
theorem CX7_51 : xML RX7 51 yX8_isSimple := Or.inr ⟨RX8, xTn_mem 495 (by decide +kernel) rfl⟩
theorem KX8_152 : Cond.constant RX8 152 (Int32.ofInt 100000) ∈ xTb := xTb_mem 706 (by decide +kernel) rfl
theorem KX5_108 : Cond.constant RX5 108 (Int32.ofInt 65535) ∈ xTb := xTb_mem 851 (by decide +kernel) rfl
theorem KX9_166 : Cond.constant RX9 166 (Int32.ofInt 100000) ∈ xTb := xTb_mem 1120 (by decide +kernel) rfl
theorem KX9_241 : Cond.constant RX9 241 (Int32.ofInt 65536) ∈ xTb := xTb_mem 1233 (by decide +kernel) rfl
theorem KJ11_76 : Cond.constant RJ11 76 (Int32.ofInt 56320) ∈ xTb := xTb_mem 491 (by decide +kernel) rfl
theorem KJ11_110 : Cond.constant RJ11 110 (Int32.ofInt 55232) ∈ xTb := xTb_mem 487 (by decide +kernel) rfl
theorem KJ2_227 : Cond.constant RJ2 227 (Int32.ofInt 65536) ∈ xTb := xTb_mem 462 (by decide +kernel) rfl
theorem KX9_67 : Cond.constantLong RX9 67 (Int64.ofInt 32) ∈ xTb := xTb_mem 1046 (by decide +kernel) rfl
theorem KX9_69 : Cond.constantLong RX9 69 (Int64.ofInt 126) ∈ xTb := xTb_mem 1047 (by decide +kernel) rfl
theorem KX9_78 : Cond.constantLong RX9 78 (Int64.ofInt 48) ∈ xTb := xTb_mem 1067 (by decide +kernel) rfl
theorem KX9_80 : Cond.constantLong RX9 80 (Int64.ofInt 57) ∈ xTb := xTb_mem 1068 (by decide +kernel) rfl
theorem KX9_143 : Cond.constantLong RX9 143 (Int64.ofInt 2) ∈ xTb := xTb_mem 1089 (by decide +kernel) rfl
theorem KX9_145 : Cond.constantLong RX9 145 (Int64.ofInt 4) ∈ xTb := xTb_mem 1090 (by decide +kernel) rfl
theorem KX9_147 : Cond.constantLong RX9 147 (Int64.ofInt (-1)) ∈ xTb := xTb_mem 1091 (by decide +kernel) rfl
theorem KX9_176 : Cond.constantLong RX9 176 (Int64.ofInt 8) ∈ xTb := xTb_mem 1125 (by decide +kernel) rfl
theorem KX9_182 : Cond.constantLong RX9 182 (Int64.ofInt 3) ∈ xTb := xTb_mem 1134 (by decide +kernel) rfl
theorem KX9_187 : Cond.constantLong RX9 187 (Int64.ofInt 5) ∈ xTb := xTb_mem 1163 (by decide +kernel) rfl
theorem KX9_252 : Cond.constantLong RX9 252 (Int64.ofInt 400) ∈ xTb := xTb_mem 1215 (by decide +kernel) rfl
theorem KX9_260 : Cond.constantLong RX9 260 (Int64.ofInt 9) ∈ xTb := xTb_mem 1254 (by decide +kernel) rfl
end
section
/-! truth values; what a kind is -/
noncomputable def pik {α : Type} (p : Prop) (a b : α) : α := @ite α p (Classical.propDecidable p) a b
theorem pik_t {α : Type} {p : Prop} (h : p) (a b : α) : pik p a b = a := by unfold pik; exact if_pos h
theorem pik_f {α : Type} {p : Prop} (h : ¬ p) (a b : α) : pik p a b = b := by unfold pik; exact if_neg h
noncomputable def xp (p : Prop) : Int := pik p 1 0
theorem xp_t {p : Prop} (h : p) : (1 : Int) = xp p := (pik_t h 1 0).symm
theorem xp_f {p : Prop} (h : ¬ p) : (0 : Int) = xp p := (pik_f h 1 0).symm
theorem xp01 (p : Prop) : xp p = 0 ∨ xp p = 1 := by
  by_cases h : p
  · exact Or.inr (xp_t h).symm
  · exact Or.inl (xp_f h).symm
theorem xp_rg (p : Prop) : xrg (xp p) := by rcases xp01 p with h | h <;> rw [h] <;> decide
theorem xp_1 {p : Prop} : xp p = 1 ↔ p := by
  by_cases h : p
  · exact ⟨fun _ => h, fun _ => (xp_t h).symm⟩
  · rw [← xp_f h]; exact ⟨fun q => absurd q (by decide), fun q => absurd q h⟩
theorem xp_0 {p : Prop} : xp p = 0 ↔ ¬ p := by
  by_cases h : p
  · rw [← xp_t h]; exact ⟨fun q => absurd q (by decide), fun q => absurd h q⟩
  · exact ⟨fun _ => h, fun _ => (xp_f h).symm⟩
theorem xp_c {p q : Prop} (h : p ↔ q) : xp p = xp q := by rw [show p = q from propext h]
section XB
variable {K : XK} {M : XM} {R : XR} {Q : Option XV → Nat → XH → Prop} {u : Nat × Nat × Nat} {pc : Nat} {L : List (Nat × XV)} {st : List XV} {h : XH}
theorem x_ifp_eq (p' : Nat) {b : Prop} {off : Int} (tgt : Nat) (hd : decode M.1 pc = .ok (.ifCond .eq off, 3)) (ht : (pc : Int) + off = (tgt : Int)) (hp : pc + 3 = p') (kt : ¬ b → WX K M R Q u tgt L st h) (kf : b → WX K M R Q u p' L st h) : WX K M R Q u pc L (vi (xp b) :: st) h := by
  subst hp
  exact x_if_eq _ tgt hd ht (xp_rg b) rfl (fun q => kt (xp_0.mp q)) (fun q => kf (xp_1.mp ((xp01 b).resolve_left q)))
theorem x_ifp_ne (p' : Nat) {b : Prop} {off : Int} (tgt : Nat) (hd : decode M.1 pc = .ok (.ifCond .ne off, 3)) (ht : (pc : Int) + off = (tgt : Int)) (hp : pc + 3 = p') (kt : b → WX K M R Q u tgt L st h) (kf : ¬ b → WX K M R Q u p' L st h) : WX K M R Q u pc L (vi (xp b) :: st) h := by
  subst hp
  exact x_if_ne _ tgt hd ht (xp_rg b) rfl (fun q => kt (xp_1.mp ((xp01 b).resolve_left q))) (fun q => kf (xp_0.mp q))
theorem WX.stk {st' : List XV} (e : st' = st) (kk : WX K M R Q u pc L st' h) : WX K M R Q u pc L st h := by subst e; exact kk
end XB
def kSim (k : Int) : Prop := 0 ≤ k ∧ k ≤ 6
def kTgt (k : Int) : Prop := 6 < k ∧ k ≤ 9
def kOwn (k : Int) : Int := if 0 ≤ k ∧ k ≤ 6 then 2 else if 6 < k ∧ k ≤ 9 then 4 else 1
def kRef (hole : Int) : Int := if hole < 0 then 2 else 3
theorem kOwn_rg (k : Int) : 1 ≤ kOwn k ∧ kOwn k ≤ 4 := by unfold kOwn; (repeat' split) <;> omega
theorem kRef_rg (k : Int) : 2 ≤ kRef k ∧ kRef k ≤ 3 := by unfold kRef; split <;> omega
set_option maxRecDepth 100000 in
set_option maxHeartbeats 4000000 in
theorem pX8_isSimple {K : XK} {n : Nat} {h : XH} (k : Int) (hk : xrg k) : MI K mX8_isSimple 0 n [vi k] h (fun z h' => z = xp (kSim k) ∧ h' = h) := by
  refine xMeth FX8_isSimple (Nat.le_of_ble_eq_true rfl) ?_
  refine x_iload_n 1 (xd DX8_isSimple rfl) rfl rfl ?_
  refine x_if_lt 4 14 (xd DX8_isSimple rfl) rfl (by omega) rfl (fun c1 => ?_) (fun c1 => ?_)
  · refine x_iconst 15 (xd DX8_isSimple rfl) rfl ?_
    refine x_rz (xd DX8_isSimple rfl) rfl (by omega) ?_
    first | exact ⟨xp_t (by unfold kSim; omega), rfl⟩ | exact ⟨xp_f (by unfold kSim; omega), rfl⟩
  · refine x_iload_n 5 (xd DX8_isSimple rfl) rfl rfl ?_
    refine x_bipush 7 (xd DX8_isSimple rfl) rfl rfl ?_
    refine x_icmp_gt 10 14 (xd DX8_isSimple rfl) rfl (by omega) (by omega) rfl (fun c7 => ?_) (fun c7 => ?_)
    · refine x_iconst 15 (xd DX8_isSimple rfl) rfl ?_
      refine x_rz (xd DX8_isSimple rfl) rfl (by omega) ?_
      first | exact ⟨xp_t (by unfold kSim; omega), rfl⟩ | exact ⟨xp_f (by unfold kSim; omega), rfl⟩
    · refine x_iconst 11 (xd DX8_isSimple rfl) rfl ?_
      refine x_goto 15 (xd DX8_isSimple rfl) rfl ?_
      refine x_rz (xd DX8_isSimple rfl) rfl (by omega) ?_
      first | exact ⟨xp_t (by unfold kSim; omega), rfl⟩ | exact ⟨xp_f (by unfold kSim; omega), rfl⟩

set_option maxRecDepth 100000 in
set_option maxHeartbeats 4000000 in
theorem pX8_hasTarget {K : XK} {n : Nat} {h : XH} (k : Int) (hk : xrg k) : MI K mX8_hasTarget 0 n [vi k] h (fun z h' => z = xp (kTgt k) ∧ h' = h) := by
  refine xMeth FX8_hasTarget (Nat.le_of_ble_eq_true rfl) ?_
  refine x_iload_n 1 (xd DX8_hasTarget rfl) rfl rfl ?_
  refine x_bipush 3 (xd DX8_hasTarget rfl) rfl rfl ?_
  refine x_icmp_le 6 16 (xd DX8_hasTarget rfl) rfl (by omega) (by omega) rfl (fun c3 => ?_) (fun c3 => ?_)
  · refine x_iconst 17 (xd DX8_hasTarget rfl) rfl ?_
    refine x_rz (xd DX8_hasTarget rfl) rfl (by omega) ?_
    first | exact ⟨xp_t (by unfold kTgt; omega), rfl⟩ | exact ⟨xp_f (by unfold kTgt; omega), rfl⟩
  · refine x_iload_n 7 (xd DX8_hasTarget rfl) rfl rfl ?_
    refine x_bipush 9 (xd DX8_hasTarget rfl) rfl rfl ?_
    refine x_icmp_gt 12 16 (xd DX8_hasTarget rfl) rfl (by omega) (by omega) rfl (fun c9 => ?_) (fun c9 => ?_)
    · refine x_iconst 17 (xd DX8_hasTarget rfl) rfl ?_
      refine x_rz (xd DX8_hasTarget rfl) rfl (by omega) ?_
      first | exact ⟨xp_t (by unfold kTgt; omega), rfl⟩ | exact ⟨xp_f (by unfold kTgt; omega), rfl⟩
    · refine x_iconst 13 (xd DX8_hasTarget rfl) rfl ?_
      refine x_goto 17 (xd DX8_hasTarget rfl) rfl ?_
      refine x_rz (xd DX8_hasTarget rfl) rfl (by omega) ?_
      first | exact ⟨xp_t (by unfold kTgt; omega), rfl⟩ | exact ⟨xp_f (by unfold kTgt; omega), rfl⟩

set_option maxRecDepth 100000 in
set_option maxHeartbeats 4000000 in
theorem pX8_nibblesOf {K : XK} {n : Nat} {h : XH} (k : Int) (hk : xrg k) : MI K mX8_nibblesOf 1 n [vi k] h (fun z h' => z = kOwn k ∧ h' = h) := by
  refine xMeth FX8_nibblesOf (Nat.le_of_ble_eq_true rfl) ?_
  refine x_iload_n 1 (xd DX8_nibblesOf rfl) rfl rfl ?_
  refine x_Si 4 (pX8_isSimple k hk) FX8_isSimple VX8_isSimple CX8_279 (xd DX8_nibblesOf rfl) rfl rfl (by decide) (Nat.le_of_ble_eq_true rfl) (by decide) rfl ?_
  rintro _ _ ⟨rfl, rfl⟩
  refine x_ifp_eq 7 9 (xd DX8_nibblesOf rfl) rfl rfl (fun c4 => ?_) (fun c4 => ?_)
  · refine x_iload_n 10 (xd DX8_nibblesOf rfl) rfl rfl ?_
    refine x_Si 13 (pX8_hasTarget k hk) FX8_hasTarget VX8_hasTarget CX8_282 (xd DX8_nibblesOf rfl) rfl rfl (by decide) (Nat.le_of_ble_eq_true rfl) (by decide) rfl ?_
    rintro _ _ ⟨rfl, rfl⟩
    refine x_ifp_eq 16 20 (xd DX8_nibblesOf rfl) rfl rfl (fun c13 => ?_) (fun c13 => ?_)
    · refine x_iconst 21 (xd DX8_nibblesOf rfl) rfl ?_
      refine x_ri (xd DX8_nibblesOf rfl) rfl ?_
      exact ⟨by unfold kOwn; unfold kSim at *; (try unfold kTgt at *); simp [*], rfl⟩
    · refine x_iconst 17 (xd DX8_nibblesOf rfl) rfl ?_
      refine x_goto 21 (xd DX8_nibblesOf rfl) rfl ?_
      refine x_ri (xd DX8_nibblesOf rfl) rfl ?_
      exact ⟨by unfold kOwn; unfold kSim at *; (try unfold kTgt at *); simp [*], rfl⟩
  · refine x_iconst 8 (xd DX8_nibblesOf rfl) rfl ?_
    refine x_ri (xd DX8_nibblesOf rfl) rfl ?_
    exact ⟨by unfold kOwn; unfold kSim at *; (try unfold kTgt at *); simp [*], rfl⟩

set_option maxRecDepth 100000 in
set_option maxHeartbeats 4000000 in
theorem pX8_referenceNibbles {K : XK} {n : Nat} {h : XH} (k : Int) (hk : xrg k) : MI K mX8_referenceNibbles 0 n [vi k] h (fun z h' => z = kRef k ∧ h' = h) := by
  refine xMeth FX8_referenceNibbles (Nat.le_of_ble_eq_true rfl) ?_
  refine x_iload_n 1 (xd DX8_referenceNibbles rfl) rfl rfl ?_
  refine x_if_ge 4 8 (xd DX8_referenceNibbles rfl) rfl (by omega) rfl (fun c1 => ?_) (fun c1 => ?_)
  · refine x_iconst 9 (xd DX8_referenceNibbles rfl) rfl ?_
    refine x_ri (xd DX8_referenceNibbles rfl) rfl ?_
    exact ⟨by unfold kRef; split <;> omega, rfl⟩
  · refine x_iconst 5 (xd DX8_referenceNibbles rfl) rfl ?_
    refine x_goto 9 (xd DX8_referenceNibbles rfl) rfl ?_
    refine x_ri (xd DX8_referenceNibbles rfl) rfl ?_
    exact ⟨by unfold kRef; split <;> omega, rfl⟩

set_option maxRecDepth 100000 in
set_option maxHeartbeats 4000000 in
theorem pX8_entryNibbles {K : XK} {n : Nat} {h : XH} (k : Int) : MI K mX8_entryNibbles 0 n [vi k] h (fun z h' => z = 1 + 2 * k ∧ h' = h) := by
  refine xMeth FX8_entryNibbles (Nat.le_of_ble_eq_true rfl) ?_
  refine x_iconst 1 (xd DX8_entryNibbles rfl) rfl ?_
  refine x_iconst 2 (xd DX8_entryNibbles rfl) rfl ?_
  refine x_iload_n 3 (xd DX8_entryNibbles rfl) rfl rfl ?_
  refine x_imul 4 (xd DX8_entryNibbles rfl) rfl ?_
  refine x_iadd 5 (xd DX8_entryNibbles rfl) rfl ?_
  refine x_ri (xd DX8_entryNibbles rfl) rfl ?_
  exact ⟨rfl, rfl⟩
end
section
/-! the class's pictures: the program (cells 4 to 7), an entry, a setup; what fits -/
def PW (h : XH) : Prop := (1 ≤ h 4 3 ∧ h 4 3 ≤ 48) ∧ ∀ i, 0 ≤ i → i < h 4 3 → (0 ≤ h 5 i ∧ h 5 i ≤ 11) ∧ (h 5 i ≤ 6 → 0 ≤ h 6 i ∧ h 6 i ≤ 9) ∧ (6 < h 5 i → h 5 i ≤ 9 → 0 ≤ h 6 i ∧ h 6 i < h 4 3) ∧ (9 < h 5 i → h 6 i = -4) ∧ (h 7 i = 0 ∨ h 7 i = 1)
theorem PW.v {h : XH} (hp : PW h) {i : Int} (h0 : 0 ≤ i) (h1 : i < h 4 3) : (0 ≤ h 5 i ∧ h 5 i ≤ 11) ∧ (-4 ≤ h 6 i ∧ h 6 i ≤ 48) := by
  obtain ⟨⟨a1, a2⟩, a3⟩ := hp
  obtain ⟨b1, b2, b3, b4, -⟩ := a3 i h0 h1
  refine ⟨b1, ?_⟩
  by_cases q : h 5 i ≤ 6
  · have := b2 q; omega
  · by_cases q2 : h 5 i ≤ 9
    · have := b3 (by omega) q2; omega
    · have := b4 (by omega); omega
def EW (h : XH) (c : Nat) : Prop := (2 ≤ h c 2 ∧ h c 2 ≤ 4) ∧ (h c 3 = -4 ∨ (0 ≤ h c 3 ∧ h c 3 < h c 2)) ∧ ∀ j, 0 ≤ j → j < h c 2 → (0 ≤ h (c + 1) j ∧ h (c + 1) j ≤ 6) ∧ (0 ≤ h (c + 2) j ∧ h (c + 2) j ≤ 9)
def SW (h : XH) (s : Nat) : Prop := (0 ≤ h s 1 ∧ h s 1 ≤ 8) ∧ (h s 2 = 4 ∨ h s 2 = 8 ∨ h s 2 = 16) ∧ (1 ≤ h s 3 ∧ h s 3 ≤ 4) ∧ ∀ e : Nat, (e : Int) < h s 1 → EW h (s + 2 + 3 * e)
def xEnt (c : Nat) : Prop := xTY c = (1, 4) ∧ xTY (c + 1) = (11, 4) ∧ xTY (c + 2) = (11, 4) ∧ xRF c 0 = c + 1 + 1 ∧ xRF c 1 = c + 2 + 1 ∧ xRF c 2 = 0 ∧ xRF c 3 = 0 ∧ c + 2 < 259
theorem xEnt_10 : ∀ e : Fin 8, xEnt (10 + 3 * e.val) := by unfold xEnt; decide
theorem xEnt_36 : ∀ k : Fin 6, ∀ e : Fin 8, xEnt (38 + 26 * k.val + 3 * e.val) := by unfold xEnt; decide +kernel
theorem xEnt_246 : xEnt 246 := by unfold xEnt; decide
def Fits (h : XH) (c : Nat) (i : Int) : Prop := 0 ≤ i ∧ i ≤ h 4 3 - h c 2 ∧ ∀ j, 0 ≤ j → j < h c 2 → h (c + 1) j = h 5 (i + j) ∧ (j = h c 3 ∨ h (c + 2) j = h 6 (i + j))
set_option maxRecDepth 100000 in
set_option maxHeartbeats 4000000 in
theorem pX4_has {K : XK} {n : Nat} {h : XH} (i : Int) (hi : xrg i) (hN : xrg (h 4 3)) : MI K mX4_has 0 n [vr 4, vi i] h (fun z h' => z = xp (0 ≤ i ∧ i < h 4 3) ∧ h' = h) := by
  refine xMeth FX4_has (Nat.le_of_ble_eq_true rfl) ?_
  refine x_iload_n 1 (xd DX4_has rfl) rfl rfl ?_
  refine x_if_lt 4 16 (xd DX4_has rfl) rfl (by omega) rfl (fun c1 => ?_) (fun c1 => ?_)
  · refine x_iconst 17 (xd DX4_has rfl) rfl ?_
    refine x_rz (xd DX4_has rfl) rfl (by omega) ?_
    first | exact ⟨xp_t (by omega), rfl⟩ | exact ⟨xp_f (by omega), rfl⟩
  · refine x_iload_n 5 (xd DX4_has rfl) rfl rfl ?_
    refine x_aload_n 6 (xd DX4_has rfl) rfl rfl ?_
    refine x_gi 9 3 rfl LX4_28 (xd DX4_has rfl) rfl ⟨Or.inr ⟨rfl, by decide⟩, by decide⟩ rfl ?_
    refine x_icmp_ge 12 16 (xd DX4_has rfl) rfl (by omega) (by omega) rfl (fun c9 => ?_) (fun c9 => ?_)
    · refine x_iconst 17 (xd DX4_has rfl) rfl ?_
      refine x_rz (xd DX4_has rfl) rfl (by omega) ?_
      first | exact ⟨xp_t (by omega), rfl⟩ | exact ⟨xp_f (by omega), rfl⟩
    · refine x_iconst 13 (xd DX4_has rfl) rfl ?_
      refine x_goto 17 (xd DX4_has rfl) rfl ?_
      refine x_rz (xd DX4_has rfl) rfl (by omega) ?_
      first | exact ⟨xp_t (by omega), rfl⟩ | exact ⟨xp_f (by omega), rfl⟩

set_option maxRecDepth 100000 in
set_option maxHeartbeats 4000000 in
theorem pX3_lineOf {K : XK} {n : Nat} {h : XH} (i : Int) (k : Nat) (hi : xrg i) (hk : h 192 15 = (k : Int)) (hk2 : k < 32) : MI K mX3_lineOf 0 n [vr 192, vi i] h (fun z h' => z = i / (2 ^ k : Nat) ∧ h' = h) := by
  refine xMeth FX3_lineOf (Nat.le_of_ble_eq_true rfl) ?_
  refine x_iload_n 1 (xd DX3_lineOf rfl) rfl rfl ?_
  refine x_aload_n 2 (xd DX3_lineOf rfl) rfl rfl ?_
  refine x_gi 5 15 rfl LX3_65 (xd DX3_lineOf rfl) rfl ⟨Or.inr ⟨rfl, by decide⟩, by decide⟩ rfl ?_
  rw [hk]
  refine x_ishr 6 (k := k) (by omega) (by omega) (xd DX3_lineOf rfl) rfl ?_
  refine x_ri (xd DX3_lineOf rfl) rfl ?_
  exact ⟨rfl, rfl⟩

set_option maxRecDepth 100000 in
set_option maxHeartbeats 4000000 in
theorem pX1_fits {K : XK} {n : Nat} {h : XH} (c : Nat) (i : Int) (hE : xEnt c) (hw : EW h c) (hP : PW h) (hi : xrg i) : MI K mX1_fits 0 n [vr c, vr 4, vi i] h (fun z h' => z = xp (Fits h c i) ∧ h' = h) := by
  refine xMeth FX1_fits (Nat.le_of_ble_eq_true rfl) ?_
  obtain ⟨e1, e2, e3, e4, e5, e6, e7, e8⟩ := hE
  obtain ⟨hw1, hw2, hw3⟩ := hw
  have hP1 := hP.1
  have loop : 0 ≤ i → i ≤ h 4 3 - h c 2 → ∀ (m : Nat) (k : Int), 0 ≤ k → k ≤ h c 2 → h c 2 - k < (m : Int) → (∀ j, 0 ≤ j → j < k → h (c + 1) j = h 5 (i + j) ∧ (j = h c 3 ∨ h (c + 2) j = h 6 (i + j))) → WI K mX1_fits 0 n (qI n fun z h' => z = xp (Fits h c i) ∧ h' = h) 21 [(0, vr c), (1, vr 4), (2, vi i), (3, vi k)] [] h := by
    intro c1 c14 m
    induction m with
    | zero => intro k h0 h1 hm; exact absurd hm (by omega)
    | succ m ih =>
      intro k h0 h1 hm hk
      refine x_iload_n 22 (xd DX1_fits rfl) rfl rfl ?_
      refine x_aload_n 23 (xd DX1_fits rfl) rfl rfl ?_
      refine x_gi 26 2 rfl LX1_18 (xd DX1_fits rfl) e1 ⟨Or.inr ⟨rfl, by show c < 259; omega⟩, by omega⟩ rfl ?_
      refine x_icmp_ge 29 81 (xd DX1_fits rfl) rfl (by omega) (by omega) rfl (fun c26 => ?_) (fun c26 => ?_)
      · refine x_iconst 82 (xd DX1_fits rfl) rfl ?_
        refine x_rz (xd DX1_fits rfl) rfl (by omega) ?_
        exact ⟨xp_t ⟨by omega, by omega, fun j a b => hk j a (by omega)⟩, rfl⟩
      · refine x_aload_n 30 (xd DX1_fits rfl) rfl rfl ?_
        refine x_gr 33 (c + 1) LX1_9 (xd DX1_fits rfl) e1 e4 ⟨by show c < 259; omega, by omega⟩ (by omega) rfl rfl ?_
        refine x_iload_n 34 (xd DX1_fits rfl) rfl rfl ?_
        refine x_iaload 35 (xd DX1_fits rfl) e2 ⟨Or.inr ⟨rfl, by show c + 1 < 259; omega⟩, by omega⟩ (by decide) (by omega) (by omega) rfl ?_
        refine x_aload_n 36 (xd DX1_fits rfl) rfl rfl ?_
        refine x_gr 39 _ LX1_25 (xd DX1_fits rfl) rfl rfl ⟨by decide, by decide⟩ (by decide) rfl rfl ?_
        refine x_iload_n 40 (xd DX1_fits rfl) rfl rfl ?_
        refine x_iload_n 41 (xd DX1_fits rfl) rfl rfl ?_
        refine x_iadd 42 (xd DX1_fits rfl) rfl ?_
        refine x_iaload 43 (xd DX1_fits rfl) rfl ⟨Or.inr ⟨rfl, by decide⟩, by decide⟩ (by decide) (by omega) (by omega) rfl ?_
        refine x_icmp_eq 46 48 (xd DX1_fits rfl) rfl (by have q1 := hw3 k h0 c26; have q2 := hP.v (i := i + k) (by omega) (by omega); omega) (by have q1 := hw3 k h0 c26; have q2 := hP.v (i := i + k) (by omega) (by omega); omega) rfl (fun c43 => ?_) (fun c43 => ?_)
        · refine x_iload_n 49 (xd DX1_fits rfl) rfl rfl ?_
          refine x_aload_n 50 (xd DX1_fits rfl) rfl rfl ?_
          refine x_gi 53 3 rfl LX1_22 (xd DX1_fits rfl) e1 ⟨Or.inr ⟨rfl, by show c < 259; omega⟩, by omega⟩ rfl ?_
          refine x_icmp_eq 56 75 (xd DX1_fits rfl) rfl (by omega) (by omega) rfl (fun c53 => ?_) (fun c53 => ?_)
          · refine x_iinc 78 (L' := [(0, _), (1, _), (2, _), (3, _)]) (xd DX1_fits rfl) rfl (by decide) rfl rfl rfl ?_
            refine x_goto 21 (xd DX1_fits rfl) rfl ?_
            exact ih (k + 1) (by omega) (by omega) (by omega) (fun j a b => by
              by_cases e : j = k
              · subst e; exact ⟨c43, by first | exact Or.inl c53 | exact Or.inr c70⟩
              · exact hk j a (by omega))
          · refine x_aload_n 57 (xd DX1_fits rfl) rfl rfl ?_
            refine x_gr 60 (c + 2) LX1_15 (xd DX1_fits rfl) e1 e5 ⟨by show c < 259; omega, by omega⟩ (by omega) rfl rfl ?_
            refine x_iload_n 61 (xd DX1_fits rfl) rfl rfl ?_
            refine x_iaload 62 (xd DX1_fits rfl) e3 ⟨Or.inr ⟨rfl, by show c + 2 < 259; omega⟩, by omega⟩ (by decide) (by omega) (by omega) rfl ?_
            refine x_aload_n 63 (xd DX1_fits rfl) rfl rfl ?_
            refine x_gr 66 _ LX1_28 (xd DX1_fits rfl) rfl rfl ⟨by decide, by decide⟩ (by decide) rfl rfl ?_
            refine x_iload_n 67 (xd DX1_fits rfl) rfl rfl ?_
            refine x_iload_n 68 (xd DX1_fits rfl) rfl rfl ?_
            refine x_iadd 69 (xd DX1_fits rfl) rfl ?_
            refine x_iaload 70 (xd DX1_fits rfl) rfl ⟨Or.inr ⟨rfl, by decide⟩, by decide⟩ (by decide) (by omega) (by omega) rfl ?_
            refine x_icmp_eq 73 75 (xd DX1_fits rfl) rfl (by have q1 := hw3 k h0 c26; have q2 := hP.v (i := i + k) (by omega) (by omega); omega) (by have q1 := hw3 k h0 c26; have q2 := hP.v (i := i + k) (by omega) (by omega); omega) rfl (fun c70 => ?_) (fun c70 => ?_)
            · refine x_iinc 78 (L' := [(0, _), (1, _), (2, _), (3, _)]) (xd DX1_fits rfl) rfl (by decide) rfl rfl rfl ?_
              refine x_goto 21 (xd DX1_fits rfl) rfl ?_
              exact ih (k + 1) (by omega) (by omega) (by omega) (fun j a b => by
                by_cases e : j = k
                · subst e; exact ⟨c43, by first | exact Or.inl c53 | exact Or.inr c70⟩
                · exact hk j a (by omega))
            · refine x_iconst 74 (xd DX1_fits rfl) rfl ?_
              refine x_rz (xd DX1_fits rfl) rfl (by omega) ?_
              exact ⟨xp_f (fun q => (q.2.2 k h0 c26).2.elim c53 c70), rfl⟩
        · refine x_iconst 47 (xd DX1_fits rfl) rfl ?_
          refine x_rz (xd DX1_fits rfl) rfl (by omega) ?_
          exact ⟨xp_f (fun q => c43 (q.2.2 k h0 c26).1), rfl⟩
  refine x_iload_n 1 (xd DX1_fits rfl) rfl rfl ?_
  refine x_if_lt 4 17 (xd DX1_fits rfl) rfl (by omega) rfl (fun c1 => ?_) (fun c1 => ?_)
  · refine x_iconst 18 (xd DX1_fits rfl) rfl ?_
    refine x_rz (xd DX1_fits rfl) rfl (by omega) ?_
    exact ⟨xp_f (by rintro ⟨a, b, -⟩; omega), rfl⟩
  · refine x_iload_n 5 (xd DX1_fits rfl) rfl rfl ?_
    refine x_aload_n 6 (xd DX1_fits rfl) rfl rfl ?_
    refine x_gi 9 3 rfl LX1_29 (xd DX1_fits rfl) rfl ⟨Or.inr ⟨rfl, by decide⟩, by decide⟩ rfl ?_
    refine x_aload_n 10 (xd DX1_fits rfl) rfl rfl ?_
    refine x_gi 13 2 rfl LX1_18 (xd DX1_fits rfl) e1 ⟨Or.inr ⟨rfl, by show c < 259; omega⟩, by omega⟩ rfl ?_
    refine x_isub 14 (xd DX1_fits rfl) rfl ?_
    refine x_icmp_le 17 19 (xd DX1_fits rfl) rfl (by omega) (by omega) rfl (fun c14 => ?_) (fun c14 => ?_)
    · refine x_iconst 20 (xd DX1_fits rfl) rfl ?_
      refine x_istore_n 21 (L' := [(0, _), (1, _), (2, _), (3, _)]) (xd DX1_fits rfl) (by decide) rfl rfl rfl ?_
      exact loop (by omega) (by omega) 100 0 (by omega) (by omega) (by omega) (fun j a b => by omega)
    · refine x_iconst 18 (xd DX1_fits rfl) rfl ?_
      refine x_rz (xd DX1_fits rfl) rfl (by omega) ?_
      exact ⟨xp_f (by rintro ⟨a, b, -⟩; omega), rfl⟩
end
section
/-! Layout: how far a sequence reaches -/
def Lead (h : XH) (k : Nat) (i : Int) : Prop := i + 1 < h 4 3 ∧ i / (2 ^ k : Nat) = (i + 1) / (2 ^ k : Nat) ∧ kSim (h 5 (i + 1)) ∧ h 7 (i + 1) = 0
noncomputable def rchF (h : XH) (k : Nat) (f : Int → Int) (i : Int) : Int := pik (kSim (h 5 i)) (pik (Lead h k i) (if 1 + f (i + 1) < 4 then 1 + f (i + 1) else 4) 1) 0
/-- the law of the row of reaches, from an instruction on -/
def RchEq (h : XH) (k : Nat) (f : Int → Int) (i : Int) : Prop := ∀ j, i ≤ j → j < h 4 3 → f j = rchF h k f j
/-- all but these cells are as they were -/
def Off (S : Nat → Prop) (h h' : XH) : Prop := ∀ c, ¬ S c → h' c = h c
theorem Off.rf {S : Nat → Prop} {h : XH} : Off S h h := fun _ _ => rfl
theorem Off.tr {S : Nat → Prop} {a b c : XH} (h1 : Off S a b) (h2 : Off S b c) : Off S a c := fun x hx => (h2 x hx).trans (h1 x hx)
theorem Off.mono {S T : Nat → Prop} {a b : XH} (h1 : Off S a b) (h : ∀ c, S c → T c) : Off T a b := fun x hx => h1 x (fun q => hx (h x q))
theorem Off.set {S : Nat → Prop} {h : XH} {c : Nat} {k z : Int} (hc : S c) : Off S h (hset h c k z) := fun x hx => by
  funext j
  unfold hset
  rw [if_neg (fun q => hx (by rw [q.1]; exact hc))]
theorem hset_s {h : XH} {c : Nat} {k z : Int} : hset h c k z c k = z := by unfold hset; exact if_pos ⟨rfl, rfl⟩
theorem hset_i {h : XH} {c : Nat} {k j z : Int} (e : j ≠ k) : hset h c k z c j = h c j := by unfold hset; exact if_neg (fun q => e q.2)
theorem hset_c {h : XH} {c d : Nat} {k z : Int} (e : d ≠ c) : hset h c k z d = h d := by funext j; unfold hset; exact if_neg (fun q => e q.1)
section XMIN
variable {K : XK} {M : XM} {R : XR} {Q : Option XV → Nat → XH → Prop} {u : Nat × Nat × Nat} {pc : Nat} {L : List (Nat × XV)} {st : List XV} {h : XH}
theorem x_min (p' : Nat) {a b : Int} {i : Nat} (hl : Cond.methodLink M.2.1.cls i Lib.Math.min.name ∈ xTb) (h2 : Cond.static Lib.Math.min.name ∈ xTb) (h3 : Cond.initialized "java/lang/Math" ∈ xTb) (h4 : Cond.code Lib.Math.min.name Lib.Math.min.code 2 (some .int) ∈ xTb) (hd : decode M.1 pc = .ok (.invokestatic i, 3)) (hF : 1 ≤ R.2.1 ∧ u.2.1 ≤ R.2.2.1 ∧ u.2.2 ≤ R.2.2.2) (hw : xcs st ≤ 8) (ra : xrg a) (rb : xrg b) (hp : pc + 3 = p')
    (kk : WX K M R Q u p' L (vi (if b < a then b else a) :: st) h) : WX K M R Q u pc L (vi b :: vi a :: st) h := by
  subst hp
  intro hmd p e s m args below meth c E H locs ls hH hP hS hl0
  have hts := E.2.2.2.2.2.2.2.1
  refine va_mmin E.1 E.2.1 (E.2.2.1.trans hl0.1.symm) E.2.2.2.2.2.2.1 (hts _ hl) (hts _ h2) (hts _ h3) (hts _ h4) hF.1 ?_ hF.2.1 hF.2.2 hd ?_
  · rw [xcs_eq]
    show xcs st + 13 ≤ 38 * R.2.1
    omega
  · have k2 := kk hmd p e s m args below meth c E H locs ls hH hP hS hl0
    have e1 : (if Int32.ofInt b < Int32.ofInt a then Int32.ofInt b else Int32.ofInt a) = Int32.ofInt (if b < a then b else a) := by
      by_cases q : b < a
      · rw [if_pos ((xlt rb ra).mpr q), if_pos q]
      · rw [if_neg (fun z => q ((xlt rb ra).mp z)), if_neg q]
    rw [e1]
    exact k2
end XMIN
theorem xdv_lo {i : Int} {p : Nat} (h : 0 ≤ i) (h2 : i < 2147483648) : -2147483648 ≤ i / (p : Int) := Int.le_trans (by decide) (Int.ediv_nonneg h (Int.natCast_nonneg p))
theorem xdv_hi {i : Int} {p : Nat} (h : 0 ≤ i) (h2 : i < 2147483648) : i / (p : Int) < 2147483648 := Int.lt_of_le_of_lt (Int.ediv_le_self _ h) h2
set_option maxRecDepth 100000 in
set_option maxHeartbeats 4000000 in
theorem pX3_leadsOn {K : XK} {n : Nat} {h : XH} (i : Int) (k : Nat) (hP : PW h) (hi : 0 ≤ i ∧ i < 48) (hk : h 192 15 = (k : Int)) (hk2 : k < 32) : MI K mX3_leadsOn 1 n [vr 192, vi i] h (fun z h' => z = xp (Lead h k i) ∧ h' = h) := by
  refine xMeth FX3_leadsOn (Nat.le_of_ble_eq_true rfl) ?_
  have hP1 := hP.1
  refine x_aload_n 1 (xd DX3_leadsOn rfl) rfl rfl ?_
  refine x_gr 4 _ LX3_51 (xd DX3_leadsOn rfl) rfl rfl ⟨by decide, by decide⟩ (by decide) rfl rfl ?_
  refine x_iload_n 5 (xd DX3_leadsOn rfl) rfl rfl ?_
  refine x_iconst 6 (xd DX3_leadsOn rfl) rfl ?_
  refine x_iadd 7 (xd DX3_leadsOn rfl) rfl ?_
  refine x_Vi 10 (pX4_has (i + 1) (by omega) (by omega)) FX4_has VX4_has CX3_104 (xd DX3_leadsOn rfl) rfl rfl rfl ⟨by decide, rfl⟩ ⟨by decide, by decide⟩ (by decide) (Nat.le_of_ble_eq_true rfl) (by decide) rfl ?_
  rintro z9 h9 ⟨q1, q2⟩
  rw [q1, q2]
  clear q1 q2 z9 h9
  refine x_ifp_eq 13 63 (xd DX3_leadsOn rfl) rfl rfl (fun c10 => ?_) (fun c10 => ?_)
  · refine x_iconst 64 (xd DX3_leadsOn rfl) rfl ?_
    refine x_rz (xd DX3_leadsOn rfl) rfl (by omega) ?_
    first | exact ⟨xp_t ⟨c10.2, c25, c42, by omega⟩, rfl⟩ | exact ⟨xp_f (fun q => c10 ⟨by omega, q.1⟩), rfl⟩ | exact ⟨xp_f (fun q => c25 q.2.1), rfl⟩ | exact ⟨xp_f (fun q => c42 q.2.2.1), rfl⟩ | exact ⟨xp_f (fun q => c56 q.2.2.2), rfl⟩
  · refine x_aload_n 14 (xd DX3_leadsOn rfl) rfl rfl ?_
    refine x_iload_n 15 (xd DX3_leadsOn rfl) rfl rfl ?_
    refine x_Vi 18 (pX3_lineOf i k (by omega) hk hk2) FX3_lineOf VX3_lineOf CX3_107 (xd DX3_leadsOn rfl) rfl rfl rfl ⟨by decide, rfl⟩ ⟨by decide, by decide⟩ (by decide) (Nat.le_of_ble_eq_true rfl) (by decide) rfl ?_
    rintro z9 h9 ⟨q1, q2⟩
    rw [q1, q2]
    clear q1 q2 z9 h9
    refine x_aload_n 19 (xd DX3_leadsOn rfl) rfl rfl ?_
    refine x_iload_n 20 (xd DX3_leadsOn rfl) rfl rfl ?_
    refine x_iconst 21 (xd DX3_leadsOn rfl) rfl ?_
    refine x_iadd 22 (xd DX3_leadsOn rfl) rfl ?_
    refine x_Vi 25 (pX3_lineOf (i + 1) k (by omega) hk hk2) FX3_lineOf VX3_lineOf CX3_107 (xd DX3_leadsOn rfl) rfl rfl rfl ⟨by decide, rfl⟩ ⟨by decide, by decide⟩ (by decide) (Nat.le_of_ble_eq_true rfl) (by decide) rfl ?_
    rintro z9 h9 ⟨q1, q2⟩
    rw [q1, q2]
    clear q1 q2 z9 h9
    refine x_icmp_ne 28 63 (xd DX3_leadsOn rfl) rfl (by constructor; exact xdv_lo (by omega) (by omega); exact xdv_hi (by omega) (by omega)) (by constructor; exact xdv_lo (by omega) (by omega); exact xdv_hi (by omega) (by omega)) rfl (fun c25 => ?_) (fun c25 => ?_)
    · refine x_iconst 64 (xd DX3_leadsOn rfl) rfl ?_
      refine x_rz (xd DX3_leadsOn rfl) rfl (by omega) ?_
      first | exact ⟨xp_t ⟨c10.2, c25, c42, by omega⟩, rfl⟩ | exact ⟨xp_f (fun q => c10 ⟨by omega, q.1⟩), rfl⟩ | exact ⟨xp_f (fun q => c25 q.2.1), rfl⟩ | exact ⟨xp_f (fun q => c42 q.2.2.1), rfl⟩ | exact ⟨xp_f (fun q => c56 q.2.2.2), rfl⟩
    · refine x_aload_n 29 (xd DX3_leadsOn rfl) rfl rfl ?_
      refine x_gr 32 _ LX3_51 (xd DX3_leadsOn rfl) rfl rfl ⟨by decide, by decide⟩ (by decide) rfl rfl ?_
      refine x_gr 35 _ LX3_88 (xd DX3_leadsOn rfl) rfl rfl ⟨by decide, by decide⟩ (by decide) rfl rfl ?_
      refine x_iload_n 36 (xd DX3_leadsOn rfl) rfl rfl ?_
      refine x_iconst 37 (xd DX3_leadsOn rfl) rfl ?_
      refine x_iadd 38 (xd DX3_leadsOn rfl) rfl ?_
      refine x_iaload 39 (xd DX3_leadsOn rfl) rfl ⟨Or.inr ⟨rfl, by decide⟩, by decide⟩ (by decide) (by omega) (by omega) rfl ?_
      refine x_Si 42 (pX8_isSimple _ (by have := hP.v (i := i + 1) (by omega) c10.2; omega)) FX8_isSimple VX8_isSimple CX3_91 (xd DX3_leadsOn rfl) rfl rfl (by decide) (Nat.le_of_ble_eq_true rfl) (by decide) rfl ?_
      rintro z9 h9 ⟨q1, q2⟩
      rw [q1, q2]
      clear q1 q2 z9 h9
      refine x_ifp_eq 45 63 (xd DX3_leadsOn rfl) rfl rfl (fun c42 => ?_) (fun c42 => ?_)
      · refine x_iconst 64 (xd DX3_leadsOn rfl) rfl ?_
        refine x_rz (xd DX3_leadsOn rfl) rfl (by omega) ?_
        first | exact ⟨xp_t ⟨c10.2, c25, c42, by omega⟩, rfl⟩ | exact ⟨xp_f (fun q => c10 ⟨by omega, q.1⟩), rfl⟩ | exact ⟨xp_f (fun q => c25 q.2.1), rfl⟩ | exact ⟨xp_f (fun q => c42 q.2.2.1), rfl⟩ | exact ⟨xp_f (fun q => c56 q.2.2.2), rfl⟩
      · refine x_aload_n 46 (xd DX3_leadsOn rfl) rfl rfl ?_
        refine x_gr 49 _ LX3_51 (xd DX3_leadsOn rfl) rfl rfl ⟨by decide, by decide⟩ (by decide) rfl rfl ?_
        refine x_gr 52 _ LX3_111 (xd DX3_leadsOn rfl) rfl rfl ⟨by decide, by decide⟩ (by decide) rfl rfl ?_
        refine x_iload_n 53 (xd DX3_leadsOn rfl) rfl rfl ?_
        refine x_iconst 54 (xd DX3_leadsOn rfl) rfl ?_
        refine x_iadd 55 (xd DX3_leadsOn rfl) rfl ?_
        refine x_baload 56 (xd DX3_leadsOn rfl) rfl ⟨Or.inr ⟨rfl, by decide⟩, by decide⟩ (by decide) (by omega) (by omega) rfl ?_
        refine x_if_ne 59 63 (xd DX3_leadsOn rfl) rfl (by have := (hP.2 (i + 1) (by omega) c10.2).2.2.2.2; omega) rfl (fun c56 => ?_) (fun c56 => ?_)
        · refine x_iconst 64 (xd DX3_leadsOn rfl) rfl ?_
          refine x_rz (xd DX3_leadsOn rfl) rfl (by omega) ?_
          first | exact ⟨xp_t ⟨c10.2, c25, c42, by omega⟩, rfl⟩ | exact ⟨xp_f (fun q => c10 ⟨by omega, q.1⟩), rfl⟩ | exact ⟨xp_f (fun q => c25 q.2.1), rfl⟩ | exact ⟨xp_f (fun q => c42 q.2.2.1), rfl⟩ | exact ⟨xp_f (fun q => c56 q.2.2.2), rfl⟩
        · refine x_iconst 60 (xd DX3_leadsOn rfl) rfl ?_
          refine x_goto 64 (xd DX3_leadsOn rfl) rfl ?_
          refine x_rz (xd DX3_leadsOn rfl) rfl (by omega) ?_
          first | exact ⟨xp_t ⟨c10.2, c25, c42, by omega⟩, rfl⟩ | exact ⟨xp_f (fun q => c10 ⟨by omega, q.1⟩), rfl⟩ | exact ⟨xp_f (fun q => c25 q.2.1), rfl⟩ | exact ⟨xp_f (fun q => c42 q.2.2.1), rfl⟩ | exact ⟨xp_f (fun q => c56 q.2.2.2), rfl⟩

theorem mmS : Cond.static Lib.Math.min.name ∈ xTb := xTb_mem 452 (by decide +kernel) rfl
theorem mmI : Cond.initialized "java/lang/Math" ∈ xTb := xTb_mem 68 (by decide +kernel) rfl
theorem mmC : Cond.code Lib.Math.min.name Lib.Math.min.code 2 (some .int) ∈ xTb := xTb_mem 453 (by decide +kernel) rfl
theorem mmLJ1_38 : Cond.methodLink RJ1 38 Lib.Math.min.name ∈ xTb := xTb_mem 451 (by decide +kernel) rfl
theorem mmLJ2_183 : Cond.methodLink RJ2 183 Lib.Math.min.name ∈ xTb := xTb_mem 461 (by decide +kernel) rfl
theorem mmLX3_98 : Cond.methodLink RX3 98 Lib.Math.min.name ∈ xTb := xTb_mem 543 (by decide +kernel) rfl
theorem mmLX5_55 : Cond.methodLink RX5 55 Lib.Math.min.name ∈ xTb := xTb_mem 823 (by decide +kernel) rfl
end
section
/-! Layout: the row of reaches-/
theorem PW.off {S : Nat → Prop} {h g : XH} (hP : PW h) (hO : Off S h g) (h4 : ¬ S 4) (h5 : ¬ S 5) (h6 : ¬ S 6) (h7 : ¬ S 7) : PW g := by
  unfold PW
  rw [hO 4 h4, hO 5 h5, hO 6 h6, hO 7 h7]
  exact hP
theorem Lead.off {S : Nat → Prop} {h xg : XH} {k : Nat} {i : Int} (hO : Off S h xg) (h4 : ¬ S 4) (h5 : ¬ S 5) (h7 : ¬ S 7) : Lead xg k i ↔ Lead h k i := by
  unfold Lead
  rw [hO 4 h4, hO 5 h5, hO 7 h7]
theorem RchEq.step {h g : XH} {k : Nat} {i z : Int} (hr : RchEq h k (g 193) (i + 1)) (hz : z = rchF h k (g 193) i) : RchEq h k (hset g 193 i z 193) i := by
  intro j h1 h2
  by_cases e : j = i
  · subst e
    rw [hset_s, hz]
    unfold rchF
    rw [hset_i (by omega)]
  · rw [hset_i e, hr j (by omega) h2]
    unfold rchF
    rw [hset_i (by omega)]
set_option maxRecDepth 100000 in
set_option maxHeartbeats 4000000 in
theorem pX3_measureReaches {K : XK} {n : Nat} {h : XH} (k : Nat) (hP : PW h) (hk : h 192 15 = (k : Int)) (hk2 : k < 32) : MV K mX3_measureReaches 2 n [vr 192] h (fun h' => Off (fun c => c = 193) h h' ∧ RchEq h k (h' 193) 0 ∧ ∀ j, 0 ≤ j → j < h 4 3 → 0 ≤ h' 193 j ∧ h' 193 j ≤ 4) := by
  refine xMeth FX3_measureReaches (Nat.le_of_ble_eq_true rfl) ?_
  have hP1 := hP.1
  have loop : ∀ (m : Nat) (i : Int) (xg : XH), -1 ≤ i → i < h 4 3 → i + 1 < (m : Int) → Off (fun c => c = 193) h xg → RchEq h k (xg 193) (i + 1) → (∀ j, i < j → j < h 4 3 → 0 ≤ xg 193 j ∧ xg 193 j ≤ 4) → WI K mX3_measureReaches 2 n (qV n fun h' => Off (fun c => c = 193) h h' ∧ RchEq h k (h' 193) 0 ∧ ∀ j, 0 ≤ j → j < h 4 3 → 0 ≤ h' 193 j ∧ h' 193 j ≤ 4) 10 [(0, vr 192), (1, vi i)] [] xg := by
    intro m
    induction m with
    | zero =>
      intro i xg h0 h1 hm
      exact absurd hm (by omega)
    | succ m ih =>
      intro i xg h0 h1 hm hO hr hb
      have e4 : xg 4 3 = h 4 3 := by rw [hO 4 (by decide)]
      have e5 : xg 5 i = h 5 i := by rw [hO 5 (by decide)]
      have hPg : PW xg := hP.off hO (by decide) (by decide) (by decide) (by decide)
      refine x_iload_n 11 (xd DX3_measureReaches rfl) rfl rfl ?_
      refine x_if_lt 14 83 (xd DX3_measureReaches rfl) rfl (by omega) rfl (fun c11 => ?_) (fun c11 => ?_)
      · refine x_rv (xd DX3_measureReaches rfl) rfl ?_
        exact ⟨hO, (by rw [show (0 : Int) = i + 1 by omega]; exact hr), fun j a b => hb j (by omega) b⟩
      · refine x_aload_n 15 (xd DX3_measureReaches rfl) rfl rfl ?_
        refine x_gr 18 _ LX3_51 (xd DX3_measureReaches rfl) rfl rfl ⟨by decide, by decide⟩ (by decide) rfl rfl ?_
        refine x_gr 21 _ LX3_88 (xd DX3_measureReaches rfl) rfl rfl ⟨by decide, by decide⟩ (by decide) rfl rfl ?_
        refine x_iload_n 22 (xd DX3_measureReaches rfl) rfl rfl ?_
        refine x_iaload 23 (xd DX3_measureReaches rfl) rfl ⟨Or.inr ⟨rfl, by decide⟩, by decide⟩ (by decide) (by omega) (by omega) rfl ?_
        refine x_Si 26 (pX8_isSimple _ (by have := hPg.v (i := i) c11 (by omega); omega)) FX8_isSimple VX8_isSimple CX3_91 (xd DX3_measureReaches rfl) rfl rfl (by decide) (Nat.le_of_ble_eq_true rfl) (by decide) rfl ?_
        rintro z9 h9 ⟨q1, q2⟩
        rw [q1, q2]
        clear q1 q2 z9 h9
        refine x_ifp_ne 29 39 (xd DX3_measureReaches rfl) rfl rfl (fun c26 => ?_) (fun c26 => ?_)
        · refine x_aload_n 40 (xd DX3_measureReaches rfl) rfl rfl ?_
          refine x_iload_n 41 (xd DX3_measureReaches rfl) rfl rfl ?_
          refine x_Vi 44 (pX3_leadsOn i k hPg (by omega) (by rw [hO 192 (by decide)]; exact hk) hk2) FX3_leadsOn VX3_leadsOn CX3_95 (xd DX3_measureReaches rfl) rfl rfl rfl ⟨by decide, rfl⟩ ⟨by decide, by decide⟩ (by decide) (Nat.le_of_ble_eq_true rfl) (by decide) rfl ?_
          rw [show Lead xg k i = Lead h k i from propext (Lead.off hO (by decide) (by decide) (by decide))]
          rintro z9 h9 ⟨q1, q2⟩
          rw [q1, q2]
          clear q1 q2 z9 h9
          refine x_ifp_eq 47 70 (xd DX3_measureReaches rfl) rfl rfl (fun c44 => ?_) (fun c44 => ?_)
          · refine x_aload_n 71 (xd DX3_measureReaches rfl) rfl rfl ?_
            refine x_gr 74 _ LX3_9 (xd DX3_measureReaches rfl) rfl rfl ⟨by decide, by decide⟩ (by decide) rfl rfl ?_
            refine x_iload_n 75 (xd DX3_measureReaches rfl) rfl rfl ?_
            refine x_iconst 76 (xd DX3_measureReaches rfl) rfl ?_
            refine x_iastore 77 (xd DX3_measureReaches rfl) rfl ⟨Or.inr ⟨rfl, by decide⟩, by decide⟩ (by decide) (by omega) (by omega) rfl ?_
            refine x_iinc 80 (L' := [(0, _), (1, _)]) (xd DX3_measureReaches rfl) rfl (by decide) rfl rfl rfl ?_
            refine x_goto 10 (xd DX3_measureReaches rfl) rfl ?_
            exact ih (i + -1) _ (by omega) (by omega) (by omega) (hO.tr (Off.set rfl)) (by rw [show i + -1 + 1 = i by omega]; exact RchEq.step hr (by unfold rchF; rw [pik_t (by rw [← e5]; exact c26), pik_f c44])) (fun j a b => by
              by_cases e : j = i
              · subst e; rw [hset_s]; have := fun q => hb (j + 1) (by omega) q; first | omega | (have := this c44.1; split <;> omega)
              · rw [hset_i e]; exact hb j (by omega) b)
          · refine x_aload_n 48 (xd DX3_measureReaches rfl) rfl rfl ?_
            refine x_gr 51 _ LX3_9 (xd DX3_measureReaches rfl) rfl rfl ⟨by decide, by decide⟩ (by decide) rfl rfl ?_
            refine x_iload_n 52 (xd DX3_measureReaches rfl) rfl rfl ?_
            refine x_iconst 53 (xd DX3_measureReaches rfl) rfl ?_
            refine x_iconst 54 (xd DX3_measureReaches rfl) rfl ?_
            refine x_aload_n 55 (xd DX3_measureReaches rfl) rfl rfl ?_
            refine x_gr 58 _ LX3_9 (xd DX3_measureReaches rfl) rfl rfl ⟨by decide, by decide⟩ (by decide) rfl rfl ?_
            refine x_iload_n 59 (xd DX3_measureReaches rfl) rfl rfl ?_
            refine x_iconst 60 (xd DX3_measureReaches rfl) rfl ?_
            refine x_iadd 61 (xd DX3_measureReaches rfl) rfl ?_
            refine x_iaload 62 (xd DX3_measureReaches rfl) rfl ⟨Or.inr ⟨rfl, by decide⟩, by decide⟩ (by decide) (by have := c44.1; omega) (by have := c44.1; omega) rfl ?_
            refine x_iadd 63 (xd DX3_measureReaches rfl) rfl ?_
            refine x_min 66 mmLX3_98 mmS mmI mmC (xd DX3_measureReaches rfl) ⟨by decide, Nat.le_refl _, Nat.le_refl _⟩ (Nat.le_of_ble_eq_true rfl) (by omega) (by have := hb (i + 1) (by omega) c44.1; omega) rfl ?_
            refine x_iastore 67 (xd DX3_measureReaches rfl) rfl ⟨Or.inr ⟨rfl, by decide⟩, by decide⟩ (by decide) (by omega) (by omega) rfl ?_
            refine x_goto 77 (xd DX3_measureReaches rfl) rfl ?_
            refine x_iinc 80 (L' := [(0, _), (1, _)]) (xd DX3_measureReaches rfl) rfl (by decide) rfl rfl rfl ?_
            refine x_goto 10 (xd DX3_measureReaches rfl) rfl ?_
            exact ih (i + -1) _ (by omega) (by omega) (by omega) (hO.tr (Off.set rfl)) (by rw [show i + -1 + 1 = i by omega]; exact RchEq.step hr (by unfold rchF; rw [pik_t (by rw [← e5]; exact c26), pik_t c44])) (fun j a b => by
              by_cases e : j = i
              · subst e; rw [hset_s]; have := fun q => hb (j + 1) (by omega) q; first | omega | (have := this c44.1; split <;> omega)
              · rw [hset_i e]; exact hb j (by omega) b)
        · refine x_aload_n 30 (xd DX3_measureReaches rfl) rfl rfl ?_
          refine x_gr 33 _ LX3_9 (xd DX3_measureReaches rfl) rfl rfl ⟨by decide, by decide⟩ (by decide) rfl rfl ?_
          refine x_iload_n 34 (xd DX3_measureReaches rfl) rfl rfl ?_
          refine x_iconst 35 (xd DX3_measureReaches rfl) rfl ?_
          refine x_iastore 36 (xd DX3_measureReaches rfl) rfl ⟨Or.inr ⟨rfl, by decide⟩, by decide⟩ (by decide) (by omega) (by omega) rfl ?_
          refine x_goto 77 (xd DX3_measureReaches rfl) rfl ?_
          refine x_iinc 80 (L' := [(0, _), (1, _)]) (xd DX3_measureReaches rfl) rfl (by decide) rfl rfl rfl ?_
          refine x_goto 10 (xd DX3_measureReaches rfl) rfl ?_
          exact ih (i + -1) _ (by omega) (by omega) (by omega) (hO.tr (Off.set rfl)) (by rw [show i + -1 + 1 = i by omega]; exact RchEq.step hr (by unfold rchF; rw [pik_f (by rw [← e5]; exact c26)])) (fun j a b => by
            by_cases e : j = i
            · subst e; rw [hset_s]; have := fun q => hb (j + 1) (by omega) q; first | omega | (have := this c44.1; split <;> omega)
            · rw [hset_i e]; exact hb j (by omega) b)
  refine x_aload_n 1 (xd DX3_measureReaches rfl) rfl rfl ?_
  refine x_gr 4 _ LX3_51 (xd DX3_measureReaches rfl) rfl rfl ⟨by decide, by decide⟩ (by decide) rfl rfl ?_
  refine x_gi 7 3 rfl LX3_68 (xd DX3_measureReaches rfl) rfl ⟨Or.inr ⟨rfl, by decide⟩, by decide⟩ rfl ?_
  refine x_iconst 8 (xd DX3_measureReaches rfl) rfl ?_
  refine x_isub 9 (xd DX3_measureReaches rfl) rfl ?_
  refine x_istore_n 10 (L' := [(0, _), (1, _)]) (xd DX3_measureReaches rfl) (by decide) rfl rfl rfl ?_
  exact loop 100 _ h (by omega) (by omega) (by omega) Off.rf (fun j a b => by omega) (fun j a b => by omega)
end
section
/-! Layout: what matches; an entry offered -/
def Mt (h : XH) (c : Nat) (i : Int) : Prop := h c 2 ≤ h 193 i ∧ Fits h c i
theorem xRF_9 : ∀ e : Fin 8, xRF 9 e.val = 10 + 3 * e.val + 1 := by decide
theorem xRF_194 : ∀ e : Fin 48, xRF 194 e.val = 195 + e.val + 1 := by decide +kernel
theorem xTY_row : ∀ e : Fin 48, xTY (195 + e.val) = (11, 5) := by decide +kernel
theorem Mt.off {S : Nat → Prop} {h xg : XH} {c : Nat} {i : Int} (hO : Off S h xg) (h4 : ¬ S 4) (h5 : ¬ S 5) (h6 : ¬ S 6) (h193 : ¬ S 193) (hc : ¬ S c) (hc1 : ¬ S (c + 1)) (hc2 : ¬ S (c + 2)) : Mt xg c i = Mt h c i := by
  unfold Mt Fits
  rw [hO 4 h4, hO 5 h5, hO 6 h6, hO 193 h193, hO c hc, hO (c + 1) hc1, hO (c + 2) hc2]
set_option maxRecDepth 100000 in
set_option maxHeartbeats 4000000 in
theorem pX3_matches {K : XK} {n : Nat} {h : XH} (c : Nat) (i : Int) (hE : xEnt c) (hw : EW h c) (hP : PW h) (hi : 0 ≤ i ∧ i < 48) (hr : xrg (h 193 i)) : MI K mX3_matches 1 n [vr 192, vr c, vi i] h (fun z h' => z = xp (Mt h c i) ∧ h' = h) := by
  refine xMeth FX3_matches (Nat.le_of_ble_eq_true rfl) ?_
  have e8 := hE.2.2.2.2.2.2.2
  have hw1 := hw.1
  refine x_aload_n 1 (xd DX3_matches rfl) rfl rfl ?_
  refine x_gi 4 2 rfl LX3_139 (xd DX3_matches rfl) hE.1 ⟨Or.inr ⟨rfl, by show c < 259; omega⟩, by omega⟩ rfl ?_
  refine x_aload_n 5 (xd DX3_matches rfl) rfl rfl ?_
  refine x_gr 8 _ LX3_9 (xd DX3_matches rfl) rfl rfl ⟨by decide, by decide⟩ (by decide) rfl rfl ?_
  refine x_iload_n 9 (xd DX3_matches rfl) rfl rfl ?_
  refine x_iaload 10 (xd DX3_matches rfl) rfl ⟨Or.inr ⟨rfl, by decide⟩, by decide⟩ (by decide) (by omega) (by omega) rfl ?_
  refine x_icmp_gt 13 29 (xd DX3_matches rfl) rfl (by omega) (by omega) rfl (fun c10 => ?_) (fun c10 => ?_)
  · refine x_iconst 30 (xd DX3_matches rfl) rfl ?_
    refine x_rz (xd DX3_matches rfl) rfl (by omega) ?_
    first | exact ⟨xp_t ⟨c10, c22⟩, rfl⟩ | exact ⟨xp_f (fun q => by have := q.1; omega), rfl⟩ | exact ⟨xp_f (fun q => c22 q.2), rfl⟩
  · refine x_aload_n 14 (xd DX3_matches rfl) rfl rfl ?_
    refine x_aload_n 15 (xd DX3_matches rfl) rfl rfl ?_
    refine x_gr 18 _ LX3_51 (xd DX3_matches rfl) rfl rfl ⟨by decide, by decide⟩ (by decide) rfl rfl ?_
    refine x_iload_n 19 (xd DX3_matches rfl) rfl rfl ?_
    refine x_Vi 22 (pX1_fits c i hE hw hP (by omega)) FX1_fits VX1_fits CX3_156 (xd DX3_matches rfl) rfl rfl hE.1 ⟨by decide, rfl⟩ ⟨by show c < 259; omega, by omega⟩ (by decide) (Nat.le_of_ble_eq_true rfl) (by decide) rfl ?_
    rintro z9 h9 ⟨q1, q2⟩
    rw [q1, q2]
    clear q1 q2 z9 h9
    refine x_ifp_eq 25 29 (xd DX3_matches rfl) rfl rfl (fun c22 => ?_) (fun c22 => ?_)
    · refine x_iconst 30 (xd DX3_matches rfl) rfl ?_
      refine x_rz (xd DX3_matches rfl) rfl (by omega) ?_
      first | exact ⟨xp_t ⟨c10, c22⟩, rfl⟩ | exact ⟨xp_f (fun q => by have := q.1; omega), rfl⟩ | exact ⟨xp_f (fun q => c22 q.2), rfl⟩
    · refine x_iconst 26 (xd DX3_matches rfl) rfl ?_
      refine x_goto 30 (xd DX3_matches rfl) rfl ?_
      refine x_rz (xd DX3_matches rfl) rfl (by omega) ?_
      first | exact ⟨xp_t ⟨c10, c22⟩, rfl⟩ | exact ⟨xp_f (fun q => by have := q.1; omega), rfl⟩ | exact ⟨xp_f (fun q => c22 q.2), rfl⟩

noncomputable def offR (h : XH) (i e : Nat) : XH := pik (h (195 + i) (h (10 + 3 * e) 2) = 0 ∨ kRef (h (10 + 3 * e) 3) < h (195 + i) (h (10 + 3 * e) 2)) (hset h (195 + i) (h (10 + 3 * e) 2) (kRef (h (10 + 3 * e) 3))) h
noncomputable def offH (h : XH) (i e : Nat) : XH := pik (Mt h (10 + 3 * e) i) (pik (kRef (h (10 + 3 * e) 3) + h 243 (i + h (10 + 3 * e) 2) < h 243 i) (hset (hset (offR h i e) 243 i (kRef (h (10 + 3 * e) 3) + h 243 (i + h (10 + 3 * e) 2))) 244 i e) (offR h i e)) h
theorem offR_off (h : XH) (i e : Nat) : Off (fun c => c = 195 + i) h (offR h i e) := by
  unfold offR
  by_cases q : h (195 + i) (h (10 + 3 * e) 2) = 0 ∨ kRef (h (10 + 3 * e) 3) < h (195 + i) (h (10 + 3 * e) 2)
  · rw [pik_t q]; exact Off.set rfl
  · rw [pik_f q]; exact Off.rf
set_option maxRecDepth 100000 in
set_option maxHeartbeats 4000000 in
theorem pX3_offer {K : XK} {n : Nat} {h : XH} (i e : Nat) (hi : i < 48) (he : e < 8) (hw : EW h (10 + 3 * e)) (hP : PW h) (hr : xrg (h 193 i)) (hs : ∀ p, 2 ≤ p → p ≤ 4 → xrg (h (195 + i) p)) (hf : ∀ j, (i : Int) ≤ j → j ≤ h 4 3 → -100000 ≤ h 243 j ∧ h 243 j ≤ 100000) : MV K mX3_offer 2 n [vr 192, vi i, vi e] h (fun h' => h' = offH h i e) := by
  refine xMeth FX3_offer (Nat.le_of_ble_eq_true rfl) ?_
  have hE : xEnt (10 + 3 * e) := xEnt_10 ⟨e, he⟩
  have hw1 := hw.1
  have hw2 : xrg (h (10 + 3 * e) 3) := by have := hw.2.1; omega
  have hk := kRef_rg (h (10 + 3 * e) 3)
  have j67 : Mt h (10 + 3 * e) i → ∀ hh : XH, hh = offR h i e → WI K mX3_offer 2 n (qV n fun h' => h' = offH h i e) 67 [(0, vr 192), (1, vi i), (2, vi e), (3, vr (10 + 3 * e)), (4, vi (kRef (h (10 + 3 * e) 3))), (5, vi (h (195 + i) (h (10 + 3 * e) 2)))] [] hh := by
    intro c16 hh hh1
    have e1 : hh 243 = h 243 := by rw [hh1]; exact offR_off h i e 243 (by omega)
    have e2 : hh (10 + 3 * e) = h (10 + 3 * e) := by rw [hh1]; exact offR_off h i e (10 + 3 * e) (by omega)
    have e3 : hh (10 + 3 * e) 2 = h (10 + 3 * e) 2 := by rw [e2]
    have hP1 := hP.1
    have e4 : (i : Int) + h (10 + 3 * e) 2 ≤ h 4 3 := by have q1 := c16.2.2.1; omega
    refine x_iload 69 (xd DX3_offer rfl) rfl rfl ?_
    refine x_aload_n 70 (xd DX3_offer rfl) rfl rfl ?_
    refine x_gr 73 _ LX3_20 (xd DX3_offer rfl) rfl rfl ⟨by decide, by decide⟩ (by decide) rfl rfl ?_
    refine x_iload_n 74 (xd DX3_offer rfl) rfl rfl ?_
    refine x_aload_n 75 (xd DX3_offer rfl) rfl rfl ?_
    refine x_gi 78 2 rfl LX3_139 (xd DX3_offer rfl) hE.1 ⟨Or.inr ⟨rfl, by show 10 + 3 * e < 259; omega⟩, by omega⟩ rfl ?_
    refine x_iadd 79 (xd DX3_offer rfl) rfl ?_
    refine x_iaload 80 (xd DX3_offer rfl) rfl ⟨Or.inr ⟨rfl, by decide⟩, by decide⟩ (by decide) (by omega) (by omega) rfl ?_
    refine x_iadd 81 (xd DX3_offer rfl) rfl ?_
    refine x_istore 83 (L' := [(0, _), (1, _), (2, _), (3, _), (4, _), (5, _), (6, _)]) (xd DX3_offer rfl) (by decide) rfl rfl rfl ?_
    refine x_iload 85 (xd DX3_offer rfl) rfl rfl ?_
    refine x_aload_n 86 (xd DX3_offer rfl) rfl rfl ?_
    refine x_gr 89 _ LX3_20 (xd DX3_offer rfl) rfl rfl ⟨by decide, by decide⟩ (by decide) rfl rfl ?_
    refine x_iload_n 90 (xd DX3_offer rfl) rfl rfl ?_
    refine x_iaload 91 (xd DX3_offer rfl) rfl ⟨Or.inr ⟨rfl, by decide⟩, by decide⟩ (by decide) (by omega) (by omega) rfl ?_
    refine x_icmp_ge 94 109 (xd DX3_offer rfl) rfl (by rw [e1]; (try rw [e2]); first | (have := hf (i + h (10 + 3 * e) 2) (by omega) (by omega); omega) | (have := hf i (by omega) (by omega); omega)) (by rw [e1]; (try rw [e2]); first | (have := hf (i + h (10 + 3 * e) 2) (by omega) (by omega); omega) | (have := hf i (by omega) (by omega); omega)) rfl (fun c91 => ?_) (fun c91 => ?_)
    · refine x_rv (xd DX3_offer rfl) rfl ?_
      rw [e1, e2] at c91
      (try rw [e1, e2])
      unfold offH
      rw [pik_t c16]
      first | rw [pik_t c91, hh1] | rw [pik_f (by omega), hh1]
    · refine x_aload_n 95 (xd DX3_offer rfl) rfl rfl ?_
      refine x_gr 98 _ LX3_20 (xd DX3_offer rfl) rfl rfl ⟨by decide, by decide⟩ (by decide) rfl rfl ?_
      refine x_iload_n 99 (xd DX3_offer rfl) rfl rfl ?_
      refine x_iload 101 (xd DX3_offer rfl) rfl rfl ?_
      refine x_iastore 102 (xd DX3_offer rfl) rfl ⟨Or.inr ⟨rfl, by decide⟩, by decide⟩ (by decide) (by omega) (by omega) rfl ?_
      refine x_aload_n 103 (xd DX3_offer rfl) rfl rfl ?_
      refine x_gr 106 _ LX3_23 (xd DX3_offer rfl) rfl rfl ⟨by decide, by decide⟩ (by decide) rfl rfl ?_
      refine x_iload_n 107 (xd DX3_offer rfl) rfl rfl ?_
      refine x_iload_n 108 (xd DX3_offer rfl) rfl rfl ?_
      refine x_iastore 109 (xd DX3_offer rfl) rfl ⟨Or.inr ⟨rfl, by decide⟩, by decide⟩ (by decide) (by omega) (by omega) rfl ?_
      refine x_rv (xd DX3_offer rfl) rfl ?_
      rw [e1, e2] at c91
      (try rw [e1, e2])
      unfold offH
      rw [pik_t c16]
      first | rw [pik_t c91, hh1] | rw [pik_f (by omega), hh1]
  refine x_aload_n 1 (xd DX3_offer rfl) rfl rfl ?_
  refine x_gr 4 _ LX3_55 (xd DX3_offer rfl) rfl rfl ⟨by decide, by decide⟩ (by decide) rfl rfl ?_
  refine x_gr 7 _ LX3_125 (xd DX3_offer rfl) rfl rfl ⟨by decide, by decide⟩ (by decide) rfl rfl ?_
  refine x_iload_n 8 (xd DX3_offer rfl) rfl rfl ?_
  refine x_aaload 9 (10 + 3 * e) (xd DX3_offer rfl) rfl (by decide) ⟨by decide, by decide⟩ (by decide) rfl (by omega) (xRF_9 ⟨e, he⟩) (by omega) rfl rfl ?_
  refine x_astore_n 10 (L' := [(0, _), (1, _), (2, _), (3, _)]) (xd DX3_offer rfl) (by decide) rfl rfl rfl ?_
  refine x_aload_n 11 (xd DX3_offer rfl) rfl rfl ?_
  refine x_aload_n 12 (xd DX3_offer rfl) rfl rfl ?_
  refine x_iload_n 13 (xd DX3_offer rfl) rfl rfl ?_
  refine x_Vi 16 (pX3_matches (10 + 3 * e) i hE hw hP (by omega) hr) FX3_matches VX3_matches CX3_129 (xd DX3_offer rfl) rfl rfl rfl ⟨by decide, rfl⟩ ⟨by decide, by decide⟩ (by decide) (Nat.le_of_ble_eq_true rfl) (by decide) rfl ?_
  rintro z9 h9 ⟨q1, q2⟩
  rw [q1, q2]
  clear q1 q2 z9 h9
  refine x_ifp_ne 19 20 (xd DX3_offer rfl) rfl rfl (fun c16 => ?_) (fun c16 => ?_)
  · refine x_aload_n 21 (xd DX3_offer rfl) rfl rfl ?_
    refine x_gi 24 3 rfl LX3_133 (xd DX3_offer rfl) hE.1 ⟨Or.inr ⟨rfl, by show 10 + 3 * e < 259; omega⟩, by omega⟩ rfl ?_
    refine x_Si 27 (pX8_referenceNibbles _ hw2) FX8_referenceNibbles VX8_referenceNibbles CX3_136 (xd DX3_offer rfl) rfl rfl (by decide) (Nat.le_of_ble_eq_true rfl) (by decide) rfl ?_
    rintro z9 h9 ⟨q1, q2⟩
    rw [q1, q2]
    clear q1 q2 z9 h9
    refine x_istore 29 (L' := [(0, _), (1, _), (2, _), (3, _), (4, _)]) (xd DX3_offer rfl) (by decide) rfl rfl rfl ?_
    refine x_aload_n 30 (xd DX3_offer rfl) rfl rfl ?_
    refine x_gr 33 _ LX3_17 (xd DX3_offer rfl) rfl rfl ⟨by decide, by decide⟩ (by decide) rfl rfl ?_
    refine x_iload_n 34 (xd DX3_offer rfl) rfl rfl ?_
    refine x_aaload 35 (195 + i) (xd DX3_offer rfl) rfl (by decide) ⟨by decide, by decide⟩ (by decide) rfl (by omega) (xRF_194 ⟨i, hi⟩) (by omega) rfl rfl ?_
    refine x_aload_n 36 (xd DX3_offer rfl) rfl rfl ?_
    refine x_gi 39 2 rfl LX3_139 (xd DX3_offer rfl) hE.1 ⟨Or.inr ⟨rfl, by show 10 + 3 * e < 259; omega⟩, by omega⟩ rfl ?_
    refine x_iaload 40 (xd DX3_offer rfl) (xTY_row ⟨i, hi⟩) ⟨Or.inr ⟨rfl, by show 195 + i < 259; omega⟩, by omega⟩ (by decide) (by omega) (by omega) rfl ?_
    refine x_istore 42 (L' := [(0, _), (1, _), (2, _), (3, _), (4, _), (5, _)]) (xd DX3_offer rfl) (by decide) rfl rfl rfl ?_
    refine x_iload 44 (xd DX3_offer rfl) rfl rfl ?_
    refine x_if_eq 47 54 (xd DX3_offer rfl) rfl (by exact hs _ hw1.1 hw1.2) rfl (fun c44 => ?_) (fun c44 => ?_)
    · refine x_aload_n 55 (xd DX3_offer rfl) rfl rfl ?_
      refine x_gr 58 _ LX3_17 (xd DX3_offer rfl) rfl rfl ⟨by decide, by decide⟩ (by decide) rfl rfl ?_
      refine x_iload_n 59 (xd DX3_offer rfl) rfl rfl ?_
      refine x_aaload 60 (195 + i) (xd DX3_offer rfl) rfl (by decide) ⟨by decide, by decide⟩ (by decide) rfl (by omega) (xRF_194 ⟨i, hi⟩) (by omega) rfl rfl ?_
      refine x_aload_n 61 (xd DX3_offer rfl) rfl rfl ?_
      refine x_gi 64 2 rfl LX3_139 (xd DX3_offer rfl) hE.1 ⟨Or.inr ⟨rfl, by show 10 + 3 * e < 259; omega⟩, by omega⟩ rfl ?_
      refine x_iload 66 (xd DX3_offer rfl) rfl rfl ?_
      refine x_iastore 67 (xd DX3_offer rfl) (xTY_row ⟨i, hi⟩) ⟨Or.inr ⟨rfl, by show 195 + i < 259; omega⟩, by omega⟩ (by decide) (by omega) (by omega) rfl ?_
      refine j67 c16 _ ?_
      unfold offR
      first | rw [pik_t (Or.inl c44)] | rw [pik_t (Or.inr c51)] | rw [pik_f (by omega)]
    · refine x_iload 49 (xd DX3_offer rfl) rfl rfl ?_
      refine x_iload 51 (xd DX3_offer rfl) rfl rfl ?_
      refine x_icmp_ge 54 67 (xd DX3_offer rfl) rfl (by first | omega | exact hs _ hw1.1 hw1.2) (by first | omega | exact hs _ hw1.1 hw1.2) rfl (fun c51 => ?_) (fun c51 => ?_)
      · refine j67 c16 _ ?_
        unfold offR
        first | rw [pik_t (Or.inl c44)] | rw [pik_t (Or.inr c51)] | rw [pik_f (by omega)]
      · refine x_aload_n 55 (xd DX3_offer rfl) rfl rfl ?_
        refine x_gr 58 _ LX3_17 (xd DX3_offer rfl) rfl rfl ⟨by decide, by decide⟩ (by decide) rfl rfl ?_
        refine x_iload_n 59 (xd DX3_offer rfl) rfl rfl ?_
        refine x_aaload 60 (195 + i) (xd DX3_offer rfl) rfl (by decide) ⟨by decide, by decide⟩ (by decide) rfl (by omega) (xRF_194 ⟨i, hi⟩) (by omega) rfl rfl ?_
        refine x_aload_n 61 (xd DX3_offer rfl) rfl rfl ?_
        refine x_gi 64 2 rfl LX3_139 (xd DX3_offer rfl) hE.1 ⟨Or.inr ⟨rfl, by show 10 + 3 * e < 259; omega⟩, by omega⟩ rfl ?_
        refine x_iload 66 (xd DX3_offer rfl) rfl rfl ?_
        refine x_iastore 67 (xd DX3_offer rfl) (xTY_row ⟨i, hi⟩) ⟨Or.inr ⟨rfl, by show 195 + i < 259; omega⟩, by omega⟩ (by decide) (by omega) (by omega) rfl ?_
        refine j67 c16 _ ?_
        unfold offR
        first | rw [pik_t (Or.inl c44)] | rw [pik_t (Or.inr c51)] | rw [pik_f (by omega)]
  · refine x_rv (xd DX3_offer rfl) rfl ?_
    unfold offH; rw [pik_f c16]
end
section
/-! Layout: the best cover, from the end on -/
noncomputable def bst (h : XH) (fw : Int → Int) (i : Int) : Nat → Int × Int
  | 0 => (kOwn (h 5 i) + fw (i + 1), -4)
  | e + 1 => pik (Mt h (10 + 3 * e) i ∧ kRef (h (10 + 3 * e) 3) + fw (i + h (10 + 3 * e) 2) < (bst h fw i e).1) (kRef (h (10 + 3 * e) 3) + fw (i + h (10 + 3 * e) 2), (e : Int)) (bst h fw i e)
noncomputable def shr (h : XH) (i p : Int) : Nat → Int
  | 0 => 0
  | e + 1 => pik (Mt h (10 + 3 * e) i ∧ h (10 + 3 * e) 2 = p ∧ (shr h i p e = 0 ∨ kRef (h (10 + 3 * e) 3) < shr h i p e)) (kRef (h (10 + 3 * e) 3)) (shr h i p e)
theorem bst_fw {h : XH} {fw fw' : Int → Int} {i : Int} (hf : ∀ j, i < j → fw j = fw' j) : ∀ e : Nat, (∀ x : Nat, x < e → 2 ≤ h (10 + 3 * x) 2) → bst h fw i e = bst h fw' i e
  | 0, _ => by
    unfold bst
    rw [hf (i + 1) (by omega)]
  | e + 1, hx => by
    unfold bst
    have h2 := hx e (by omega)
    rw [bst_fw hf e (fun x q => hx x (by omega)), hf (i + h (10 + 3 * e) 2) (by omega)]
theorem bst_rg {h : XH} {fw : Int → Int} {i B : Int} (hB : 0 ≤ B) (hi : i < h 4 3) (hf : ∀ j, i < j → j ≤ h 4 3 → 0 ≤ fw j ∧ fw j ≤ B) : ∀ e : Nat, (∀ x : Nat, x < e → 2 ≤ h (10 + 3 * x) 2) → 0 ≤ (bst h fw i e).1 ∧ (bst h fw i e).1 ≤ B + 4
  | 0, _ => by
    unfold bst
    have h1 := hf (i + 1) (by omega) (by omega)
    have h2 := kOwn_rg (h 5 i)
    show 0 ≤ kOwn (h 5 i) + fw (i + 1) ∧ kOwn (h 5 i) + fw (i + 1) ≤ B + 4
    omega
  | e + 1, hx => by
    have ih := bst_rg hB hi hf e (fun x q => hx x (by omega))
    have h2 := kRef_rg (h (10 + 3 * e) 3)
    unfold bst
    by_cases q : Mt h (10 + 3 * e) i ∧ kRef (h (10 + 3 * e) 3) + fw (i + h (10 + 3 * e) 2) < (bst h fw i e).1
    · have h1 := hf (i + h (10 + 3 * e) 2) (by have := hx e (by omega); omega) (by have := q.1.2.2.1; omega)
      rw [pik_t q]
      show 0 ≤ kRef (h (10 + 3 * e) 3) + fw (i + h (10 + 3 * e) 2) ∧ kRef (h (10 + 3 * e) 3) + fw (i + h (10 + 3 * e) 2) ≤ B + 4
      omega
    · rw [pik_f q]
      exact ih
theorem bst_pk {h : XH} {fw : Int → Int} {i : Int} : ∀ e : Nat, (bst h fw i e).2 = -4 ∨ (0 ≤ (bst h fw i e).2 ∧ (bst h fw i e).2 < e)
  | 0 => Or.inl rfl
  | e + 1 => by
    have ih := bst_pk (h := h) (fw := fw) (i := i) e
    unfold bst
    by_cases q : Mt h (10 + 3 * e) i ∧ kRef (h (10 + 3 * e) 3) + fw (i + h (10 + 3 * e) 2) < (bst h fw i e).1
    · rw [pik_t q]
      exact Or.inr ⟨by show (0 : Int) ≤ (e : Int); omega, by show (e : Int) < ((e + 1 : Nat) : Int); omega⟩
    · rw [pik_f q]
      rcases ih with q | q
      · exact Or.inl q
      · exact Or.inr ⟨q.1, by omega⟩
theorem shr_rg {h : XH} {i p : Int} : ∀ e : Nat, 0 ≤ shr h i p e ∧ shr h i p e ≤ 3
  | 0 => by unfold shr; omega
  | e + 1 => by
    have ih := shr_rg (h := h) (i := i) (p := p) e
    have h2 := kRef_rg (h (10 + 3 * e) 3)
    unfold shr
    by_cases q : Mt h (10 + 3 * e) i ∧ h (10 + 3 * e) 2 = p ∧ (shr h i p e = 0 ∨ kRef (h (10 + 3 * e) 3) < shr h i p e)
    · rw [pik_t q]; omega
    · rw [pik_f q]; exact ih
/-- the row of the fewest and of the picks, from an instruction on -/
def FBEq (h g : XH) (i : Int) : Prop := ∀ j, i ≤ j → j < h 4 3 → g 243 j = (bst h (g 243) j (h 8 1).toNat).1 ∧ g 244 j = (bst h (g 243) j (h 8 1).toNat).2 ∧ ∀ p, 2 ≤ p → p ≤ 4 → g (195 + j.toNat) p = shr h j p (h 8 1).toNat
/-- at an instruction, e entries offered -/
def FBAt (h g : XH) (i : Int) (e : Nat) : Prop := g 243 i = (bst h (g 243) i e).1 ∧ g 244 i = (bst h (g 243) i e).2 ∧ ∀ p, 2 ≤ p → p ≤ 4 → g (195 + i.toNat) p = shr h i p e
def SFB (c : Nat) : Prop := 195 ≤ c ∧ c ≤ 244
theorem FBEq.keep {h g g' : XH} {i : Int} (hi : 0 ≤ i) (hE : ∀ x : Nat, (x : Int) < h 8 1 → 2 ≤ h (10 + 3 * x) 2) (hq : FBEq h g (i + 1)) (h1 : ∀ j, i < j → g' 243 j = g 243 j) (h2 : ∀ j, i < j → g' 244 j = g 244 j) (h3 : ∀ j : Nat, i < (j : Int) → (j : Int) < h 4 3 → g' (195 + j) = g (195 + j)) : FBEq h g' (i + 1) := by
  intro j a b
  obtain ⟨q1, q2, q3⟩ := hq j a b
  have e1 : bst h (g' 243) j (h 8 1).toNat = bst h (g 243) j (h 8 1).toNat := bst_fw (fun x q => h1 x (by omega)) _ (fun x q => hE x (by omega))
  rw [e1, h1 j (by omega), h2 j (by omega), h3 j.toNat (by omega) (by omega)]
  exact ⟨q1, q2, q3⟩
theorem FBAt.step {h g : XH} {i : Nat} {e : Nat} (hi : i < 48) (hO : Off SFB h g) (hE : ∀ x : Nat, x ≤ e → 2 ≤ h (10 + 3 * x) 2 ∧ h (10 + 3 * x) 2 ≤ 4) (he : e < 8) (hq : FBAt h g i e) : FBAt h (offH g i e) i (e + 1) ∧ Off SFB h (offH g i e) ∧ (∀ j, (i : Int) < j → offH g i e 243 j = g 243 j) ∧ (∀ j, (i : Int) < j → offH g i e 244 j = g 244 j) ∧ (∀ j : Nat, i < j → j < 48 → offH g i e (195 + j) = g (195 + j)) := by
  obtain ⟨q1, q2, q3⟩ := hq
  have hM : Mt g (10 + 3 * e) i = Mt h (10 + 3 * e) i := Mt.off hO (by unfold SFB; omega) (by unfold SFB; omega) (by unfold SFB; omega) (by unfold SFB; omega) (by unfold SFB; omega) (by unfold SFB; omega) (by unfold SFB; omega)
  have hC : g (10 + 3 * e) = h (10 + 3 * e) := hO _ (by unfold SFB; omega)
  have h2 := hE e (by omega)
  have hp : ∀ p, 2 ≤ p → p ≤ 4 → g (195 + i) p = shr h i p e := fun p a b => by have := q3 p a b; rwa [Int.toNat_natCast] at this
  -- the row of the shortest
  have hR : ∀ p, 2 ≤ p → p ≤ 4 → Mt h (10 + 3 * e) i → offR g i e (195 + i) p = shr h i p (e + 1) := by
    intro p a b hm
    unfold offR shr
    rw [hC]
    by_cases ep : h (10 + 3 * e) 2 = p
    · rw [ep, hp p a b]
      by_cases q : shr h i p e = 0 ∨ kRef (h (10 + 3 * e) 3) < shr h i p e
      · rw [pik_t q, pik_t ⟨hm, rfl, q⟩, hset_s]
      · rw [pik_f q, pik_f (fun z => q z.2.2), hp p a b]
    · rw [pik_f (p := Mt h (10 + 3 * e) i ∧ h (10 + 3 * e) 2 = p ∧ (shr h i p e = 0 ∨ kRef (h (10 + 3 * e) 3) < shr h i p e)) (fun z => ep z.2.1)]
      by_cases q : g (195 + i) (h (10 + 3 * e) 2) = 0 ∨ kRef (h (10 + 3 * e) 3) < g (195 + i) (h (10 + 3 * e) 2)
      · rw [pik_t q, hset_i (fun z => ep z.symm), hp p a b]
      · rw [pik_f q, hp p a b]
  have hRo := offR_off g i e
  have r243 : offR g i e 243 = g 243 := hRo 243 (by omega)
  have r244 : offR g i e 244 = g 244 := hRo 244 (by omega)
  have rrow : ∀ j : Nat, i < j → offR g i e (195 + j) = g (195 + j) := fun j a => hRo _ (by omega)
  have hSR : Off SFB h (offR g i e) := hO.tr (hRo.mono (fun c q => by unfold SFB; omega))
  unfold offH
  rw [hM, hC]
  by_cases hm : Mt h (10 + 3 * e) i
  · rw [pik_t hm]
    by_cases hw : kRef (h (10 + 3 * e) 3) + g 243 (i + h (10 + 3 * e) 2) < g 243 i
    · rw [pik_t hw]
      have k243 : ∀ j, (i : Int) < j → hset (hset (offR g i e) 243 i (kRef (h (10 + 3 * e) 3) + g 243 (i + h (10 + 3 * e) 2))) 244 i e 243 j = g 243 j := fun j a => by
        rw [hset_c (by decide), hset_i (by omega), r243]
      refine ⟨⟨?_, ?_, ?_⟩, (hSR.tr (Off.set (by unfold SFB; omega))).tr (Off.set (by unfold SFB; omega)), k243, fun j a => by rw [hset_i (by omega), hset_c (by decide), r244], fun j a b => by rw [hset_c (by omega), hset_c (by omega), rrow j a]⟩
      · rw [bst_fw (fw' := g 243) k243 (e + 1) (fun x q => (hE x (by omega)).1), hset_c (by decide), hset_s]
        unfold bst
        rw [pik_t ⟨hm, by rw [← q1]; exact hw⟩]
      · rw [bst_fw (fw' := g 243) k243 (e + 1) (fun x q => (hE x (by omega)).1), hset_s]
        unfold bst
        rw [pik_t ⟨hm, by rw [← q1]; exact hw⟩]
      · intro p a b
        rw [Int.toNat_natCast, hset_c (by omega), hset_c (by omega)]
        exact hR p a b hm
    · rw [pik_f hw]
      refine ⟨⟨?_, ?_, ?_⟩, hSR, fun j _ => by rw [r243], fun j _ => by rw [r244], fun j a _ => rrow j a⟩
      · rw [r243]
        unfold bst
        rw [pik_f (fun z => hw (by rw [q1]; exact z.2))]
        exact q1
      · rw [r243, r244]
        unfold bst
        rw [pik_f (fun z => hw (by rw [q1]; exact z.2))]
        exact q2
      · intro p a b
        rw [Int.toNat_natCast]
        exact hR p a b hm
  · rw [pik_f hm]
    refine ⟨⟨?_, ?_, fun p a b => ?_⟩, hO, fun _ _ => rfl, fun _ _ => rfl, fun _ _ _ => rfl⟩
    · unfold bst
      rw [pik_f (fun z => hm z.1)]
      exact q1
    · unfold bst
      rw [pik_f (fun z => hm z.1)]
      exact q2
    · unfold shr
      rw [pik_f (fun z => hm z.1)]
      exact q3 p a b
end
section
/-! Layout.findBest -/
theorem EW.off {S : Nat → Prop} {h xg : XH} {c : Nat} (hO : Off S h xg) (hc : ¬ S c) (hc1 : ¬ S (c + 1)) (hc2 : ¬ S (c + 2)) (hw : EW h c) : EW xg c := by
  unfold EW
  rw [hO c hc, hO (c + 1) hc1, hO (c + 2) hc2]
  exact hw
theorem FBAt.zero {h xg : XH} {i : Nat} (hi : i < 48) (hO : Off SFB h xg) (hz : ∀ p, 2 ≤ p → p ≤ 4 → xg (195 + i) p = 0) : FBAt h (hset (hset xg 243 i (kOwn (xg 5 i) + xg 243 (i + 1))) 244 i (-4)) i 0 := by
  have e5 : xg 5 = h 5 := hO 5 (by unfold SFB; omega)
  refine ⟨?_, ?_, fun p a b => ?_⟩
  · unfold bst
    rw [hset_c (by decide), hset_s, hset_i (by omega), e5]
  · unfold bst
    rw [hset_s]
  · unfold shr
    rw [Int.toNat_natCast, hset_c (by omega), hset_c (by omega)]
    exact hz p a b
set_option maxRecDepth 100000 in
set_option maxHeartbeats 4000000 in
theorem pX3_findBest {K : XK} {n : Nat} {h : XH} (hP : PW h) (hS : SW h 8) (hr : ∀ j, 0 ≤ j → j < h 4 3 → 0 ≤ h 193 j ∧ h 193 j ≤ 4) : MV K mX3_findBest 3 n [vr 192] h (fun h' => Off SFB h h' ∧ h' 243 (h 4 3) = 0 ∧ FBEq h h' 0 ∧ ∀ j, 0 ≤ j → j ≤ h 4 3 → 0 ≤ h' 243 j ∧ h' 243 j ≤ 4 * (h 4 3 - j)) := by
  refine xMeth FX3_findBest (Nat.le_of_ble_eq_true rfl) ?_
  have hP1 := hP.1
  have hW : ∀ x : Nat, (x : Int) < h 8 1 → EW h (10 + 3 * x) := fun x q => hS.2.2.2 x q
  have hE : ∀ x : Nat, (x : Int) < h 8 1 → 2 ≤ h (10 + 3 * x) 2 := fun x q => (hW x q).1.1
  have hS1 := hS.1
  have loop : ∀ (m : Nat) (xi : Int) (xg : XH), -1 ≤ xi → xi < h 4 3 → xi + 1 < (m : Int) → Off SFB h xg → xg 243 (h 4 3) = 0 → FBEq h xg (xi + 1) → (∀ j, xi < j → j ≤ h 4 3 → 0 ≤ xg 243 j ∧ xg 243 j ≤ 4 * (h 4 3 - j)) → WI K mX3_findBest 3 n (qV n fun h' => Off SFB h h' ∧ h' 243 (h 4 3) = 0 ∧ FBEq h h' 0 ∧ ∀ j, 0 ≤ j → j ≤ h 4 3 → 0 ≤ h' 243 j ∧ h' 243 j ≤ 4 * (h 4 3 - j)) 23 [(0, vr 192), (1, vi xi)] [] xg := by
    intro m
    induction m with
    | zero => intro xi xg a b c; exact absurd c (by omega)
    | succ m ih =>
      intro xi xg h0 h1 hm hO hz hq hb
      refine x_iload_n 24 (xd DX3_findBest rfl) rfl rfl ?_
      refine x_if_lt 27 115 (xd DX3_findBest rfl) rfl (by omega) rfl (fun c24 => ?_) (fun c24 => ?_)
      · refine x_rv (xd DX3_findBest rfl) rfl ?_
        exact ⟨hO, hz, by rw [show (0 : Int) = xi + 1 by omega]; exact hq, fun j a b => hb j (by omega) b⟩
      · obtain ⟨xj, rfl⟩ := Int.eq_ofNat_of_zero_le c24
        have hj : xj < 48 := by omega
        have loop2 : ∀ (m2 : Nat) (xe : Nat) (xg : XH), (xe : Int) ≤ h 8 1 → h 8 1 - xe < (m2 : Int) → Off SFB h xg → xg 243 (h 4 3) = 0 → FBAt h xg (xj : Int) xe → FBEq h xg ((xj : Int) + 1) → (∀ j, (xj : Int) < j → j ≤ h 4 3 → 0 ≤ xg 243 j ∧ xg 243 j ≤ 4 * (h 4 3 - j)) → WI K mX3_findBest 3 n (qV n fun h' => Off SFB h h' ∧ h' 243 (h 4 3) = 0 ∧ FBEq h h' 0 ∧ ∀ j, 0 ≤ j → j ≤ h 4 3 → 0 ≤ h' 243 j ∧ h' 243 j ≤ 4 * (h 4 3 - j)) 86 [(0, vr 192), (1, vi (xj : Int)), (2, vi (xe : Int))] [] xg := by
          intro m2
          induction m2 with
          | zero => intro xe xg a b; exact absurd b (by omega)
          | succ m2 ih2 =>
            intro xe xg h2 hm2 hO hz hA hq hb
            have e4 : xg 4 3 = h 4 3 := by rw [hO 4 (by unfold SFB; omega)]
            have e8 : xg 8 1 = h 8 1 := by rw [hO 8 (by unfold SFB; omega)]
            have hPg : PW xg := hP.off hO (by unfold SFB; omega) (by unfold SFB; omega) (by unfold SFB; omega) (by unfold SFB; omega)
            refine x_iload_n 87 (xd DX3_findBest rfl) rfl rfl ?_
            refine x_aload_n 88 (xd DX3_findBest rfl) rfl rfl ?_
            refine x_gr 91 _ LX3_55 (xd DX3_findBest rfl) rfl rfl ⟨by decide, by decide⟩ (by decide) rfl rfl ?_
            refine x_gi 94 1 rfl LX3_118 (xd DX3_findBest rfl) rfl ⟨Or.inr ⟨rfl, by decide⟩, by decide⟩ rfl ?_
            refine x_icmp_ge 97 109 (xd DX3_findBest rfl) rfl (by omega) (by omega) rfl (fun c94 => ?_) (fun c94 => ?_)
            · refine x_iinc 112 (L' := [(0, _), (1, _), (2, _)]) (xd DX3_findBest rfl) rfl (by decide) rfl rfl rfl ?_
              refine x_goto 23 (xd DX3_findBest rfl) rfl ?_
              refine WX.locals (L' := [(0, _), (1, _)]) (fun q hq => List.mem_append_left _ hq) ?_
              exact ih _ _ (by omega) (by omega) (by omega) hO hz (fun j a b => by
                by_cases q : j = (xj : Int)
                · subst q
                  rw [show (h 8 1).toNat = xe by omega]
                  exact hA
                · exact hq j (by omega) b) (fun j a b => by
                by_cases q : j = (xj : Int)
                · subst q
                  rw [hA.1]
                  have q2 := bst_rg (h := h) (fw := xg 243) (i := (xj : Int)) (B := 4 * (h 4 3 - xj) - 4) (by omega) (by omega) (fun x a b => by have := hb x a b; omega) xe (fun x q => (hW x (by omega)).1.1)
                  omega
                · exact hb j (by omega) b)
            · refine x_aload_n 98 (xd DX3_findBest rfl) rfl rfl ?_
              refine x_iload_n 99 (xd DX3_findBest rfl) rfl rfl ?_
              refine x_iload_n 100 (xd DX3_findBest rfl) rfl rfl ?_
              refine x_Vv 103 (pX3_offer xj xe hj (by omega) (EW.off hO (by unfold SFB; omega) (by unfold SFB; omega) (by unfold SFB; omega) (hW xe (by omega))) hPg (by rw [hO 193 (by unfold SFB; omega)]; have := hr (xj : Int) (by omega) (by omega); omega) (fun p a b => by have q1 := hA.2.2 p a b; rw [Int.toNat_natCast] at q1; rw [q1]; have q2 := shr_rg (h := h) (i := (xj : Int)) (p := p) xe; omega) (fun j a b => by
                rw [e4] at b
                by_cases q : j = (xj : Int)
                · subst q; rw [hA.1]; have q2 := bst_rg (h := h) (fw := xg 243) (i := (xj : Int)) (B := 4 * (h 4 3 - xj)) (by omega) (by omega) (fun x a b => by have := hb x a b; omega) xe (fun x q => (hW x (by omega)).1.1); omega
                · have := hb j (by omega) b; omega)) FX3_offer VX3_offer CX3_121 (xd DX3_findBest rfl) rfl rfl rfl ⟨by decide, rfl⟩ ⟨by decide, by decide⟩ (by decide) (Nat.le_of_ble_eq_true rfl) (by decide) rfl ?_
              rintro h9 q2
              rw [q2]
              clear q2 h9
              refine x_iinc 106 (L' := [(0, _), (1, _), (2, _)]) (xd DX3_findBest rfl) rfl (by decide) rfl rfl rfl ?_
              refine x_goto 86 (xd DX3_findBest rfl) rfl ?_
              obtain ⟨s1, s2, s3, s4, s5⟩ := FBAt.step (e := xe) hj hO (fun x q => (hW x (by omega)).1) (by omega) hA
              exact ih2 (xe + 1) _ (by omega) (by omega) s2 (by rw [s3 _ (by omega)]; exact hz) s1 (FBEq.keep (by omega) hE hq s3 s4 (fun j a b => s5 j (by omega) (by omega))) (fun j a b => by rw [s3 j a]; exact hb j a b)
        have loop1 : ∀ (m1 : Nat) (xp1 : Int) (xg : XH), 2 ≤ xp1 → xp1 ≤ 5 → 5 - xp1 < (m1 : Int) → Off SFB h xg → xg 243 (h 4 3) = 0 → (∀ p, 2 ≤ p → p < xp1 → xg (195 + xj) p = 0) → FBEq h xg ((xj : Int) + 1) → (∀ j, (xj : Int) < j → j ≤ h 4 3 → 0 ≤ xg 243 j ∧ xg 243 j ≤ 4 * (h 4 3 - j)) → WI K mX3_findBest 3 n (qV n fun h' => Off SFB h h' ∧ h' 243 (h 4 3) = 0 ∧ FBEq h h' 0 ∧ ∀ j, 0 ≤ j → j ≤ h 4 3 → 0 ≤ h' 243 j ∧ h' 243 j ≤ 4 * (h 4 3 - j)) 29 [(0, vr 192), (1, vi (xj : Int)), (2, vi xp1)] [] xg := by
          intro m1
          induction m1 with
          | zero => intro xp1 xg a b c; exact absurd c (by omega)
          | succ m1 ih1 =>
            intro xp1 xg h2 h3 hm1 hO hz hzz hq hb
            have e4 : xg 4 3 = h 4 3 := by rw [hO 4 (by unfold SFB; omega)]
            have hPg : PW xg := hP.off hO (by unfold SFB; omega) (by unfold SFB; omega) (by unfold SFB; omega) (by unfold SFB; omega)
            refine x_iload_n 30 (xd DX3_findBest rfl) rfl rfl ?_
            refine x_iconst 31 (xd DX3_findBest rfl) rfl ?_
            refine x_icmp_gt 34 49 (xd DX3_findBest rfl) rfl (by omega) (by omega) rfl (fun c31 => ?_) (fun c31 => ?_)
            · refine x_aload_n 50 (xd DX3_findBest rfl) rfl rfl ?_
              refine x_gr 53 _ LX3_20 (xd DX3_findBest rfl) rfl rfl ⟨by decide, by decide⟩ (by decide) rfl rfl ?_
              refine x_iload_n 54 (xd DX3_findBest rfl) rfl rfl ?_
              refine x_aload_n 55 (xd DX3_findBest rfl) rfl rfl ?_
              refine x_gr 58 _ LX3_51 (xd DX3_findBest rfl) rfl rfl ⟨by decide, by decide⟩ (by decide) rfl rfl ?_
              refine x_gr 61 _ LX3_88 (xd DX3_findBest rfl) rfl rfl ⟨by decide, by decide⟩ (by decide) rfl rfl ?_
              refine x_iload_n 62 (xd DX3_findBest rfl) rfl rfl ?_
              refine x_iaload 63 (xd DX3_findBest rfl) rfl ⟨Or.inr ⟨rfl, by decide⟩, by decide⟩ (by decide) (by omega) (by omega) rfl ?_
              refine x_Si 66 (pX8_nibblesOf _ (by have := hPg.v (i := (xj : Int)) (by omega) (by omega); omega)) FX8_nibblesOf VX8_nibblesOf CX3_115 (xd DX3_findBest rfl) rfl rfl (by decide) (Nat.le_of_ble_eq_true rfl) (by decide) rfl ?_
              rintro z9 h9 ⟨q1, q2⟩
              rw [q1, q2]
              clear q1 q2 z9 h9
              refine x_aload_n 67 (xd DX3_findBest rfl) rfl rfl ?_
              refine x_gr 70 _ LX3_20 (xd DX3_findBest rfl) rfl rfl ⟨by decide, by decide⟩ (by decide) rfl rfl ?_
              refine x_iload_n 71 (xd DX3_findBest rfl) rfl rfl ?_
              refine x_iconst 72 (xd DX3_findBest rfl) rfl ?_
              refine x_iadd 73 (xd DX3_findBest rfl) rfl ?_
              refine x_iaload 74 (xd DX3_findBest rfl) rfl ⟨Or.inr ⟨rfl, by decide⟩, by decide⟩ (by decide) (by omega) (by omega) rfl ?_
              refine x_iadd 75 (xd DX3_findBest rfl) rfl ?_
              refine x_iastore 76 (xd DX3_findBest rfl) rfl ⟨Or.inr ⟨rfl, by decide⟩, by decide⟩ (by decide) (by omega) (by omega) rfl ?_
              refine x_aload_n 77 (xd DX3_findBest rfl) rfl rfl ?_
              refine x_gr 80 _ LX3_23 (xd DX3_findBest rfl) rfl rfl ⟨by decide, by decide⟩ (by decide) rfl rfl ?_
              refine x_iload_n 81 (xd DX3_findBest rfl) rfl rfl ?_
              refine x_bipush 83 (xd DX3_findBest rfl) rfl rfl ?_
              refine x_iastore 84 (xd DX3_findBest rfl) rfl ⟨Or.inr ⟨rfl, by decide⟩, by decide⟩ (by decide) (by omega) (by omega) rfl ?_
              refine x_iconst 85 (xd DX3_findBest rfl) rfl ?_
              refine x_istore_n 86 (L' := [(0, _), (1, _), (2, _)]) (xd DX3_findBest rfl) (by decide) rfl rfl rfl ?_
              exact loop2 100 0 _ (by omega) (by omega) ((hO.tr (Off.set (by unfold SFB; omega))).tr (Off.set (by unfold SFB; omega))) (by rw [hset_c (by decide), hset_i (by omega)]; exact hz) (FBAt.zero hj hO (fun p a b => hzz p a (by omega))) (FBEq.keep (by omega) hE hq (fun j a => by rw [hset_c (by decide), hset_i (by omega)]) (fun j a => by rw [hset_i (by omega), hset_c (by decide)]) (fun j a b => by rw [hset_c (by omega), hset_c (by omega)])) (fun j a b => by rw [hset_c (by decide), hset_i (by omega)]; exact hb j a b)
            · refine x_aload_n 35 (xd DX3_findBest rfl) rfl rfl ?_
              refine x_gr 38 _ LX3_17 (xd DX3_findBest rfl) rfl rfl ⟨by decide, by decide⟩ (by decide) rfl rfl ?_
              refine x_iload_n 39 (xd DX3_findBest rfl) rfl rfl ?_
              refine x_aaload 40 (195 + xj) (xd DX3_findBest rfl) rfl (by decide) ⟨by decide, by decide⟩ (by decide) rfl (by omega) (xRF_194 ⟨xj, hj⟩) (by omega) rfl rfl ?_
              refine x_iload_n 41 (xd DX3_findBest rfl) rfl rfl ?_
              refine x_iconst 42 (xd DX3_findBest rfl) rfl ?_
              refine x_iastore 43 (xd DX3_findBest rfl) (xTY_row ⟨xj, hj⟩) ⟨Or.inr ⟨rfl, by show 195 + xj < 259; omega⟩, by omega⟩ (by decide) (by omega) (by omega) rfl ?_
              refine x_iinc 46 (L' := [(0, _), (1, _), (2, _)]) (xd DX3_findBest rfl) rfl (by decide) rfl rfl rfl ?_
              refine x_goto 29 (xd DX3_findBest rfl) rfl ?_
              exact ih1 (xp1 + 1) _ (by omega) (by omega) (by omega) (hO.tr (Off.set (by unfold SFB; omega))) (by rw [hset_c (by omega)]; exact hz) (fun p a b => by
                by_cases q : p = xp1
                · subst q; exact hset_s
                · rw [hset_i q]; exact hzz p a (by omega)) (FBEq.keep (by omega) hE hq (fun j a => by rw [hset_c (by omega)]) (fun j a => by rw [hset_c (by omega)]) (fun j a b => by rw [hset_c (by omega)])) (fun j a b => by rw [hset_c (by omega)]; exact hb j a b)
        refine x_iconst 28 (xd DX3_findBest rfl) rfl ?_
        refine x_istore_n 29 (L' := [(0, _), (1, _), (2, _)]) (xd DX3_findBest rfl) (by decide) rfl rfl rfl ?_
        exact loop1 100 2 xg (by omega) (by omega) (by omega) hO hz (fun p a b => absurd b (by omega)) hq hb
  refine x_aload_n 1 (xd DX3_findBest rfl) rfl rfl ?_
  refine x_gr 4 _ LX3_20 (xd DX3_findBest rfl) rfl rfl ⟨by decide, by decide⟩ (by decide) rfl rfl ?_
  refine x_aload_n 5 (xd DX3_findBest rfl) rfl rfl ?_
  refine x_gr 8 _ LX3_51 (xd DX3_findBest rfl) rfl rfl ⟨by decide, by decide⟩ (by decide) rfl rfl ?_
  refine x_gi 11 3 rfl LX3_68 (xd DX3_findBest rfl) rfl ⟨Or.inr ⟨rfl, by decide⟩, by decide⟩ rfl ?_
  refine x_iconst 12 (xd DX3_findBest rfl) rfl ?_
  refine x_iastore 13 (xd DX3_findBest rfl) rfl ⟨Or.inr ⟨rfl, by decide⟩, by decide⟩ (by decide) (by omega) (by omega) rfl ?_
  refine x_aload_n 14 (xd DX3_findBest rfl) rfl rfl ?_
  refine x_gr 17 _ LX3_51 (xd DX3_findBest rfl) rfl rfl ⟨by decide, by decide⟩ (by decide) rfl rfl ?_
  refine x_gi 20 3 rfl LX3_68 (xd DX3_findBest rfl) rfl ⟨Or.inr ⟨rfl, by decide⟩, by decide⟩ rfl ?_
  refine x_iconst 21 (xd DX3_findBest rfl) rfl ?_
  refine x_isub 22 (xd DX3_findBest rfl) rfl ?_
  refine x_istore_n 23 (L' := [(0, _), (1, _)]) (xd DX3_findBest rfl) (by decide) rfl rfl rfl ?_
  have z4 : hset h 243 (h 4 3) 0 4 = h 4 := hset_c (by decide)
  rw [z4]
  exact loop 100 _ _ (by omega) (by omega) (by omega) (Off.set (by unfold SFB; omega)) hset_s (fun j a b => absurd b (by omega)) (fun j a b => by rw [show j = h 4 3 by omega, hset_s]; omega)
end
section
/-! Layout.placeAll -/
/-- ahead of an instruction: the entry that it may be in, which one of it, how many are left of it, the nibbles so far -/
def csN (h : XH) : Nat → Int × Int × Int × Int
  | 0 => (-4, 0, 0, 0)
  | i + 1 => if (csN h i).2.2.1 = 0 then (if h 244 i < 0 then (h 244 i, 1, 0, (csN h i).2.2.2 + kOwn (h 5 i)) else (h 244 i, 1, h (10 + 3 * (h 244 i).toNat) 2 - 1, (csN h i).2.2.2 + kRef (h (10 + 3 * (h 244 i).toNat) 3))) else ((csN h i).1, (csN h i).2.1 + 1, (csN h i).2.2.1 - 1, (csN h i).2.2.2)
theorem csN_s (h : XH) (i : Nat) : csN h (i + 1) = if (csN h i).2.2.1 = 0 then (if h 244 i < 0 then (h 244 i, 1, 0, (csN h i).2.2.2 + kOwn (h 5 i)) else (h 244 i, 1, h (10 + 3 * (h 244 i).toNat) 2 - 1, (csN h i).2.2.2 + kRef (h (10 + 3 * (h 244 i).toNat) 3))) else ((csN h i).1, (csN h i).2.1 + 1, (csN h i).2.2.1 - 1, (csN h i).2.2.2) := rfl
def PK (h : XH) : Prop := ∀ i, 0 ≤ i → i < h 4 3 → h 244 i = -4 ∨ (0 ≤ h 244 i ∧ h 244 i < h 8 1)
def PF (h g : XH) (j : Nat) : Prop := g 249 j = (csN h (j + 1)).1 ∧ g 250 j = (if (csN h (j + 1)).1 < 0 then -4 else (csN h (j + 1)).2.1 - 1) ∧ g 251 j = (if (csN h j).2.2.1 = 0 then (csN h j).2.2.2 else -4) ∧ g 252 j = (csN h (j + 1)).2.2.2
def SPA (c : Nat) : Prop := c = 192 ∨ (249 ≤ c ∧ c ≤ 252)
theorem csN_rg {h : XH} (hP : PW h) (hS : SW h 8) (hK : PK h) : ∀ i : Nat, (i : Int) ≤ h 4 3 → ((csN h i).1 = -4 ∨ (0 ≤ (csN h i).1 ∧ (csN h i).1 < h 8 1)) ∧ (0 ≤ (csN h i).2.1 ∧ (csN h i).2.1 ≤ i) ∧ (0 ≤ (csN h i).2.2.1 ∧ (csN h i).2.2.1 ≤ 3) ∧ (0 ≤ (csN h i).2.2.2 ∧ (csN h i).2.2.2 ≤ 4 * i)
  | 0, _ => by simp [csN]
  | i + 1, hi => by
    obtain ⟨a, b, c, d⟩ := csN_rg hP hS hK i (by omega)
    have hk := hK i (by omega) (by omega)
    have ho := kOwn_rg (h 5 i)
    have hr := kRef_rg (h (10 + 3 * (h 244 i).toNat) 3)
    unfold csN
    by_cases q : (csN h i).2.2.1 = 0
    · rw [if_pos q]
      by_cases q2 : h 244 i < 0
      · rw [if_pos q2]
        exact ⟨Or.inl (by show h 244 i = -4; omega), by show (0:Int) ≤ 1 ∧ 1 ≤ ((i + 1 : Nat) : Int); omega, by show (0:Int) ≤ 0 ∧ (0:Int) ≤ 3; omega, by show 0 ≤ (csN h i).2.2.2 + kOwn (h 5 i) ∧ (csN h i).2.2.2 + kOwn (h 5 i) ≤ 4 * ((i + 1 : Nat) : Int); omega⟩
      · rw [if_neg q2]
        have hw := (hS.2.2.2 (h 244 i).toNat (by omega)).1
        have e1 : 8 + 2 + 3 * (h 244 i).toNat = 10 + 3 * (h 244 i).toNat := by omega
        rw [e1] at hw
        exact ⟨Or.inr (by show 0 ≤ h 244 i ∧ h 244 i < h 8 1; omega), by show (0:Int) ≤ 1 ∧ 1 ≤ ((i + 1 : Nat) : Int); omega, by show 0 ≤ h (10 + 3 * (h 244 i).toNat) 2 - 1 ∧ h (10 + 3 * (h 244 i).toNat) 2 - 1 ≤ 3; omega, by show 0 ≤ (csN h i).2.2.2 + kRef (h (10 + 3 * (h 244 i).toNat) 3) ∧ (csN h i).2.2.2 + kRef (h (10 + 3 * (h 244 i).toNat) 3) ≤ 4 * ((i + 1 : Nat) : Int); omega⟩
    · rw [if_neg q]
      exact ⟨a, by show 0 ≤ (csN h i).2.1 + 1 ∧ (csN h i).2.1 + 1 ≤ ((i + 1 : Nat) : Int); omega, by show 0 ≤ (csN h i).2.2.1 - 1 ∧ (csN h i).2.2.1 - 1 ≤ 3; omega, by show 0 ≤ (csN h i).2.2.2 ∧ (csN h i).2.2.2 ≤ 4 * ((i + 1 : Nat) : Int); omega⟩
theorem PF.keep {h g g' : XH} {j : Nat} (hp : PF h g j) (h1 : g' 249 j = g 249 j) (h2 : g' 250 j = g 250 j) (h3 : g' 251 j = g 251 j) (h4 : g' 252 j = g 252 j) : PF h g' j := by
  unfold PF
  rw [h1, h2, h3, h4]
  exact hp
set_option maxRecDepth 100000 in
set_option maxHeartbeats 4000000 in
theorem pX3_placeAll {K : XK} {n : Nat} {h : XH} (hP : PW h) (hS : SW h 8) (hK : PK h) : MV K mX3_placeAll 2 n [vr 192] h (fun h' => Off SPA h h' ∧ (∀ j, j ≠ 13 → h' 192 j = h 192 j) ∧ h' 192 13 = (csN h (h 4 3).toNat).2.2.2 ∧ ∀ j : Nat, (j : Int) < h 4 3 → PF h h' j) := by
  refine xMeth FX3_placeAll (Nat.le_of_ble_eq_true rfl) ?_
  have hP1 := hP.1
  have hS1 := hS.1
  have loop : ∀ (m : Nat) (xi : Nat) (ow pl lf : Int) (xg : XH), (xi : Int) ≤ h 4 3 → h 4 3 - xi < (m : Int) → Off SPA h xg → (∀ j, j ≠ 13 → xg 192 j = h 192 j) → xg 192 13 = (csN h xi).2.2.2 → (∀ j : Nat, j < xi → PF h xg j) → ow = (csN h xi).1 → pl = (csN h xi).2.1 → lf = (csN h xi).2.2.1 → WI K mX3_placeAll 2 n (qV n fun h' => Off SPA h h' ∧ (∀ j, j ≠ 13 → h' 192 j = h 192 j) ∧ h' 192 13 = (csN h (h 4 3).toNat).2.2.2 ∧ ∀ j : Nat, (j : Int) < h 4 3 → PF h h' j) 15 [(0, vr 192), (1, vi ow), (2, vi pl), (3, vi lf), (4, vi (xi : Int))] [] xg := by
    intro m
    induction m with
    | zero => intro xi ow pl lf xg a b; exact absurd b (by omega)
    | succ m ih =>
      intro xi ow pl lf xg h0 hm hO h192 hL hpf q1 q2 q3
      obtain ⟨r1, r2, r3, r4⟩ := csN_rg hP hS hK xi h0
      have hk := fun q => hK (xi : Int) (by omega) q
      have e4 : xg 4 3 = h 4 3 := by rw [hO 4 (by unfold SPA; omega)]
      have e5 : xg 5 = h 5 := hO 5 (by unfold SPA; omega)
      have e244 : xg 244 = h 244 := hO 244 (by unfold SPA; omega)
      have j152 : xi < h 4 3 → ∀ (ow pl lf : Int) (xq : XH), Off SPA h xq → (∀ j, j ≠ 13 → xq 192 j = h 192 j) → xq 192 13 = (csN h (xi + 1)).2.2.2 → xq 251 xi = (if (csN h xi).2.2.1 = 0 then (csN h xi).2.2.2 else -4) → (∀ j : Nat, j < xi → PF h xq j) → ow = (csN h (xi + 1)).1 → pl + 1 = (csN h (xi + 1)).2.1 → lf - 1 = (csN h (xi + 1)).2.2.1 → WI K mX3_placeAll 2 n (qV n fun h' => Off SPA h h' ∧ (∀ j, j ≠ 13 → h' 192 j = h 192 j) ∧ h' 192 13 = (csN h (h 4 3).toNat).2.2.2 ∧ ∀ j : Nat, (j : Int) < h 4 3 → PF h h' j) 152 [(0, vr 192), (1, vi ow), (2, vi pl), (3, vi lf), (4, vi (xi : Int))] [] xq := by
        intro hlt ow pl lf xq hO2 h192b hL2 hA2 hpf2 q1 q2 q3
        obtain ⟨r1, r2, r3, r4⟩ := csN_rg hP hS hK (xi + 1) (by omega)
        refine x_aload_n 153 (xd DX3_placeAll rfl) rfl rfl ?_
        refine x_gr 156 _ LX3_36 (xd DX3_placeAll rfl) rfl rfl ⟨by decide, by decide⟩ (by decide) rfl rfl ?_
        refine x_iload 158 (xd DX3_placeAll rfl) rfl rfl ?_
        refine x_iload_n 159 (xd DX3_placeAll rfl) rfl rfl ?_
        refine x_iastore 160 (xd DX3_placeAll rfl) rfl ⟨Or.inr ⟨rfl, by decide⟩, by decide⟩ (by decide) (by omega) (by omega) rfl ?_
        refine x_aload_n 161 (xd DX3_placeAll rfl) rfl rfl ?_
        refine x_gr 164 _ LX3_39 (xd DX3_placeAll rfl) rfl rfl ⟨by decide, by decide⟩ (by decide) rfl rfl ?_
        refine x_iload 166 (xd DX3_placeAll rfl) rfl rfl ?_
        refine x_iload_n 167 (xd DX3_placeAll rfl) rfl rfl ?_
        refine x_if_ge 170 175 (xd DX3_placeAll rfl) rfl (by omega) rfl (fun c167 => ?_) (fun c167 => ?_)
        · refine x_iload_n 176 (xd DX3_placeAll rfl) rfl rfl ?_
          refine x_iastore 177 (xd DX3_placeAll rfl) rfl ⟨Or.inr ⟨rfl, by decide⟩, by decide⟩ (by decide) (by omega) (by omega) rfl ?_
          refine x_aload_n 178 (xd DX3_placeAll rfl) rfl rfl ?_
          refine x_gr 181 _ LX3_45 (xd DX3_placeAll rfl) rfl rfl ⟨by decide, by decide⟩ (by decide) rfl rfl ?_
          refine x_iload 183 (xd DX3_placeAll rfl) rfl rfl ?_
          refine x_aload_n 184 (xd DX3_placeAll rfl) rfl rfl ?_
          refine x_gi 187 13 rfl LX3_142 (xd DX3_placeAll rfl) rfl ⟨Or.inr ⟨rfl, by decide⟩, by decide⟩ rfl ?_
          refine x_iastore 188 (xd DX3_placeAll rfl) rfl ⟨Or.inr ⟨rfl, by decide⟩, by decide⟩ (by decide) (by omega) (by omega) rfl ?_
          refine x_iinc 191 (L' := [(0, _), (1, _), (2, _), (3, _), (4, _)]) (xd DX3_placeAll rfl) rfl (by decide) rfl rfl rfl ?_
          refine x_iinc 194 (L' := [(0, _), (1, _), (2, _), (3, _), (4, _)]) (xd DX3_placeAll rfl) rfl (by decide) rfl rfl rfl ?_
          refine x_iinc 197 (L' := [(0, _), (1, _), (2, _), (3, _), (4, _)]) (xd DX3_placeAll rfl) rfl (by decide) rfl rfl rfl ?_
          refine x_goto 15 (xd DX3_placeAll rfl) rfl ?_
          refine ih (xi + 1) _ _ _ _ (by omega) (by omega) ?_ ?_ ?_ ?_ q1 q2 q3
          · exact ((hO2.tr (Off.set (by unfold SPA; omega))).tr (Off.set (by unfold SPA; omega))).tr (Off.set (by unfold SPA; omega))
          · intro j a
            rw [hset_c (by decide), hset_c (by decide), hset_c (by decide)]
            exact h192b j a
          · rw [hset_c (by decide), hset_c (by decide), hset_c (by decide)]
            exact hL2
          · intro j a
            by_cases q : j = xi
            · subst q
              refine ⟨?_, ?_, ?_, ?_⟩
              · rw [hset_c (by decide), hset_c (by decide), hset_s]; exact q1
              · rw [hset_c (by decide), hset_s, ← q1, ← q2]; first | rw [if_pos c167] | (rw [if_neg (by omega)]; omega)
              · rw [hset_c (by decide), hset_c (by decide), hset_c (by decide)]; exact hA2
              · rw [hset_s, hset_c (by decide), hset_c (by decide)]; exact hL2
            · exact (hpf2 j (by omega)).keep (by rw [hset_c (by decide), hset_c (by decide), hset_i (by omega)]) (by rw [hset_c (by decide), hset_i (by omega), hset_c (by decide)]) (by rw [hset_c (by decide), hset_c (by decide), hset_c (by decide)]) (by rw [hset_i (by omega), hset_c (by decide), hset_c (by decide)])
        · refine x_bipush 172 (xd DX3_placeAll rfl) rfl rfl ?_
          refine x_goto 176 (xd DX3_placeAll rfl) rfl ?_
          refine x_iastore 177 (xd DX3_placeAll rfl) rfl ⟨Or.inr ⟨rfl, by decide⟩, by decide⟩ (by decide) (by omega) (by omega) rfl ?_
          refine x_aload_n 178 (xd DX3_placeAll rfl) rfl rfl ?_
          refine x_gr 181 _ LX3_45 (xd DX3_placeAll rfl) rfl rfl ⟨by decide, by decide⟩ (by decide) rfl rfl ?_
          refine x_iload 183 (xd DX3_placeAll rfl) rfl rfl ?_
          refine x_aload_n 184 (xd DX3_placeAll rfl) rfl rfl ?_
          refine x_gi 187 13 rfl LX3_142 (xd DX3_placeAll rfl) rfl ⟨Or.inr ⟨rfl, by decide⟩, by decide⟩ rfl ?_
          refine x_iastore 188 (xd DX3_placeAll rfl) rfl ⟨Or.inr ⟨rfl, by decide⟩, by decide⟩ (by decide) (by omega) (by omega) rfl ?_
          refine x_iinc 191 (L' := [(0, _), (1, _), (2, _), (3, _), (4, _)]) (xd DX3_placeAll rfl) rfl (by decide) rfl rfl rfl ?_
          refine x_iinc 194 (L' := [(0, _), (1, _), (2, _), (3, _), (4, _)]) (xd DX3_placeAll rfl) rfl (by decide) rfl rfl rfl ?_
          refine x_iinc 197 (L' := [(0, _), (1, _), (2, _), (3, _), (4, _)]) (xd DX3_placeAll rfl) rfl (by decide) rfl rfl rfl ?_
          refine x_goto 15 (xd DX3_placeAll rfl) rfl ?_
          refine ih (xi + 1) _ _ _ _ (by omega) (by omega) ?_ ?_ ?_ ?_ q1 q2 q3
          · exact ((hO2.tr (Off.set (by unfold SPA; omega))).tr (Off.set (by unfold SPA; omega))).tr (Off.set (by unfold SPA; omega))
          · intro j a
            rw [hset_c (by decide), hset_c (by decide), hset_c (by decide)]
            exact h192b j a
          · rw [hset_c (by decide), hset_c (by decide), hset_c (by decide)]
            exact hL2
          · intro j a
            by_cases q : j = xi
            · subst q
              refine ⟨?_, ?_, ?_, ?_⟩
              · rw [hset_c (by decide), hset_c (by decide), hset_s]; exact q1
              · rw [hset_c (by decide), hset_s, ← q1, ← q2]; first | rw [if_pos c167] | (rw [if_neg (by omega)]; omega)
              · rw [hset_c (by decide), hset_c (by decide), hset_c (by decide)]; exact hA2
              · rw [hset_s, hset_c (by decide), hset_c (by decide)]; exact hL2
            · exact (hpf2 j (by omega)).keep (by rw [hset_c (by decide), hset_c (by decide), hset_i (by omega)]) (by rw [hset_c (by decide), hset_i (by omega), hset_c (by decide)]) (by rw [hset_c (by decide), hset_c (by decide), hset_c (by decide)]) (by rw [hset_i (by omega), hset_c (by decide), hset_c (by decide)])
      refine x_iload 17 (xd DX3_placeAll rfl) rfl rfl ?_
      refine x_aload_n 18 (xd DX3_placeAll rfl) rfl rfl ?_
      refine x_gr 21 _ LX3_51 (xd DX3_placeAll rfl) rfl rfl ⟨by decide, by decide⟩ (by decide) rfl rfl ?_
      refine x_gi 24 3 rfl LX3_68 (xd DX3_placeAll rfl) rfl ⟨Or.inr ⟨rfl, by decide⟩, by decide⟩ rfl ?_
      refine x_icmp_ge 27 200 (xd DX3_placeAll rfl) rfl (by omega) (by omega) rfl (fun c24 => ?_) (fun c24 => ?_)
      · refine x_rv (xd DX3_placeAll rfl) rfl ?_
        have e9 : (h 4 3).toNat = xi := by omega
        exact ⟨hO, h192, by rw [e9]; exact hL, fun j a => hpf j (by omega)⟩
      · refine x_iload_n 28 (xd DX3_placeAll rfl) rfl rfl ?_
        refine x_if_ne 31 35 (xd DX3_placeAll rfl) rfl (by omega) rfl (fun c28 => ?_) (fun c28 => ?_)
        · have hz : ¬ (csN h xi).2.2.1 = 0 := by rw [← q3]; exact c28
          refine x_iconst 36 (xd DX3_placeAll rfl) rfl ?_
          refine x_istore 38 (L' := [(0, _), (1, _), (2, _), (3, _), (4, _), (5, _)]) (xd DX3_placeAll rfl) (by decide) rfl rfl rfl ?_
          refine x_aload_n 39 (xd DX3_placeAll rfl) rfl rfl ?_
          refine x_gr 42 _ LX3_42 (xd DX3_placeAll rfl) rfl rfl ⟨by decide, by decide⟩ (by decide) rfl rfl ?_
          refine x_iload 44 (xd DX3_placeAll rfl) rfl rfl ?_
          refine x_iload 46 (xd DX3_placeAll rfl) rfl rfl ?_
          refine x_if_eq 49 56 (xd DX3_placeAll rfl) rfl (by omega) rfl (fun _ => ?_) (fun c46 => absurd c46 (by decide))
          refine x_bipush 58 (xd DX3_placeAll rfl) rfl rfl ?_
          (try rw [hL])
          refine x_iastore 59 (xd DX3_placeAll rfl) rfl ⟨Or.inr ⟨rfl, by decide⟩, by decide⟩ (by decide) (by omega) (by omega) rfl ?_
          refine x_iload 61 (xd DX3_placeAll rfl) rfl rfl ?_
          refine x_if_eq 64 152 (xd DX3_placeAll rfl) rfl (by omega) rfl (fun _ => ?_) (fun c61 => absurd c61 (by decide))
          refine WX.locals (L' := [(0, _), (1, _), (2, _), (3, _), (4, _)]) (fun q hq => List.mem_append_left _ hq) ?_
          refine j152 (by omega) _ _ _ _ ?_ ?_ ?_ ?_ ?_ ?_ ?_ ?_
          all_goals first | exact (hO.tr (Off.set (by unfold SPA; omega))).tr (Off.set (by unfold SPA; omega)) | exact hO.tr (Off.set (by unfold SPA; omega)) | skip
          · intro j a
            first | (rw [hset_i (by omega), hset_c (by decide)]; exact h192 j a) | (rw [hset_c (by decide)]; exact h192 j a)
          · rw [csN_s]
            first | (rw [hset_s, if_pos hz, if_pos (by omega)]) | (rw [hset_s, if_pos hz, if_neg (by omega), he]; try rfl) | (rw [hset_c (by decide), if_neg hz]; exact hL)
          · first | (rw [hset_c (by decide), hset_s, if_pos hz]) | (rw [hset_s, if_neg hz])
          · intro j a
            first | exact (hpf j a).keep (by rw [hset_c (by decide), hset_c (by decide)]) (by rw [hset_c (by decide), hset_c (by decide)]) (by rw [hset_c (by decide), hset_i (by omega)]) (by rw [hset_c (by decide), hset_c (by decide)]) | exact (hpf j a).keep (by rw [hset_c (by decide)]) (by rw [hset_c (by decide)]) (by rw [hset_i (by omega)]) (by rw [hset_c (by decide)])
          all_goals rw [csN_s]
          · first | rw [if_pos hz, if_pos (by omega)] | (rw [if_pos hz, if_neg (by omega), he]) | (rw [if_neg hz]; exact q1)
          · first | (rw [if_pos hz, if_pos (by omega)]; try rfl) | (rw [if_pos hz, if_neg (by omega)]; try rfl) | (rw [if_neg hz, q2])
          · first | (rw [if_pos hz, if_pos (by omega)]; try rfl) | (rw [if_pos hz, if_neg (by omega), he]; try rfl) | (rw [if_neg hz, q3])
        · have hz : (csN h xi).2.2.1 = 0 := by rw [← q3]; exact c28
          refine x_iconst 32 (xd DX3_placeAll rfl) rfl ?_
          refine x_goto 36 (xd DX3_placeAll rfl) rfl ?_
          refine x_istore 38 (L' := [(0, _), (1, _), (2, _), (3, _), (4, _), (5, _)]) (xd DX3_placeAll rfl) (by decide) rfl rfl rfl ?_
          refine x_aload_n 39 (xd DX3_placeAll rfl) rfl rfl ?_
          refine x_gr 42 _ LX3_42 (xd DX3_placeAll rfl) rfl rfl ⟨by decide, by decide⟩ (by decide) rfl rfl ?_
          refine x_iload 44 (xd DX3_placeAll rfl) rfl rfl ?_
          refine x_iload 46 (xd DX3_placeAll rfl) rfl rfl ?_
          refine x_if_eq 49 56 (xd DX3_placeAll rfl) rfl (by omega) rfl (fun c46 => absurd c46 (by decide)) (fun _ => ?_)
          refine x_aload_n 50 (xd DX3_placeAll rfl) rfl rfl ?_
          refine x_gi 53 13 rfl LX3_142 (xd DX3_placeAll rfl) rfl ⟨Or.inr ⟨rfl, by decide⟩, by decide⟩ rfl ?_
          refine x_goto 58 (xd DX3_placeAll rfl) rfl ?_
          (try rw [hL])
          refine x_iastore 59 (xd DX3_placeAll rfl) rfl ⟨Or.inr ⟨rfl, by decide⟩, by decide⟩ (by decide) (by omega) (by omega) rfl ?_
          refine x_iload 61 (xd DX3_placeAll rfl) rfl rfl ?_
          refine x_if_eq 64 152 (xd DX3_placeAll rfl) rfl (by omega) rfl (fun c61 => absurd c61 (by decide)) (fun _ => ?_)
          refine x_aload_n 65 (xd DX3_placeAll rfl) rfl rfl ?_
          refine x_gr 68 _ LX3_23 (xd DX3_placeAll rfl) rfl rfl ⟨by decide, by decide⟩ (by decide) rfl rfl ?_
          refine x_iload 70 (xd DX3_placeAll rfl) rfl rfl ?_
          refine x_iaload 71 (xd DX3_placeAll rfl) rfl ⟨Or.inr ⟨rfl, by decide⟩, by decide⟩ (by decide) (by omega) (by omega) rfl ?_
          rw [hset_c (d := 244) (c := 251) (by decide), e244]
          refine x_istore_n 72 (L' := [(0, _), (1, _), (2, _), (3, _), (4, _), (5, _)]) (xd DX3_placeAll rfl) (by decide) rfl rfl rfl ?_
          refine x_iconst 73 (xd DX3_placeAll rfl) rfl ?_
          refine x_istore_n 74 (L' := [(0, _), (1, _), (2, _), (3, _), (4, _), (5, _)]) (xd DX3_placeAll rfl) (by decide) rfl rfl rfl ?_
          refine x_iload_n 75 (xd DX3_placeAll rfl) rfl rfl ?_
          refine x_if_ge 78 82 (xd DX3_placeAll rfl) rfl (by omega) rfl (fun c75 => ?_) (fun c75 => ?_)
          · obtain ⟨xe, he⟩ := Int.eq_ofNat_of_zero_le c75
            have hxe : xe < 8 := by omega
            have hC : xg (10 + 3 * xe) = h (10 + 3 * xe) := hO _ (by unfold SPA; omega)
            rw [he]
            refine x_iconst 83 (xd DX3_placeAll rfl) rfl ?_
            refine x_istore 85 (L' := [(0, _), (1, _), (2, _), (3, _), (4, _), (5, _), (6, _)]) (xd DX3_placeAll rfl) (by decide) rfl rfl rfl ?_
            refine x_iload 87 (xd DX3_placeAll rfl) rfl rfl ?_
            refine x_if_eq 90 94 (xd DX3_placeAll rfl) rfl (by omega) rfl (fun _ => ?_) (fun c87 => absurd c87 (by decide))
            refine x_aload_n 95 (xd DX3_placeAll rfl) rfl rfl ?_
            refine x_gr 98 _ LX3_55 (xd DX3_placeAll rfl) rfl rfl ⟨by decide, by decide⟩ (by decide) rfl rfl ?_
            refine x_gr 101 _ LX3_125 (xd DX3_placeAll rfl) rfl rfl ⟨by decide, by decide⟩ (by decide) rfl rfl ?_
            refine x_iload_n 102 (xd DX3_placeAll rfl) rfl rfl ?_
            refine x_aaload 103 (10 + 3 * xe) (xd DX3_placeAll rfl) rfl (by decide) ⟨by decide, by decide⟩ (by decide) rfl (by omega) (xRF_9 ⟨xe, hxe⟩) (by omega) rfl rfl ?_
            refine x_gi 106 2 rfl LX3_139 (xd DX3_placeAll rfl) (xEnt_10 ⟨xe, hxe⟩).1 ⟨Or.inr ⟨rfl, by show 10 + 3 * xe < 259; omega⟩, by omega⟩ rfl ?_
            (try rw [hset_c (d := 10 + 3 * xe) (c := 251) (by omega), hC])
            refine x_istore_n 107 (L' := [(0, _), (1, _), (2, _), (3, _), (4, _), (5, _), (6, _)]) (xd DX3_placeAll rfl) (by decide) rfl rfl rfl ?_
            refine x_aload_n 108 (xd DX3_placeAll rfl) rfl rfl ?_
            refine x_dupr 109 (xd DX3_placeAll rfl) rfl ?_
            refine x_gi 112 13 rfl LX3_142 (xd DX3_placeAll rfl) rfl ⟨Or.inr ⟨rfl, by decide⟩, by decide⟩ rfl ?_
            rw [hset_c (d := 192) (c := 251) (by decide), hL]
            refine x_iload 114 (xd DX3_placeAll rfl) rfl rfl ?_
            refine x_if_eq 117 133 (xd DX3_placeAll rfl) rfl (by omega) rfl (fun _ => ?_) (fun c114 => absurd c114 (by decide))
            refine x_aload_n 134 (xd DX3_placeAll rfl) rfl rfl ?_
            refine x_gr 137 _ LX3_55 (xd DX3_placeAll rfl) rfl rfl ⟨by decide, by decide⟩ (by decide) rfl rfl ?_
            refine x_gr 140 _ LX3_125 (xd DX3_placeAll rfl) rfl rfl ⟨by decide, by decide⟩ (by decide) rfl rfl ?_
            refine x_iload_n 141 (xd DX3_placeAll rfl) rfl rfl ?_
            refine x_aaload 142 (10 + 3 * xe) (xd DX3_placeAll rfl) rfl (by decide) ⟨by decide, by decide⟩ (by decide) rfl (by omega) (xRF_9 ⟨xe, hxe⟩) (by omega) rfl rfl ?_
            refine x_gi 145 3 rfl LX3_133 (xd DX3_placeAll rfl) (xEnt_10 ⟨xe, hxe⟩).1 ⟨Or.inr ⟨rfl, by show 10 + 3 * xe < 259; omega⟩, by omega⟩ rfl ?_
            rw [hset_c (d := 10 + 3 * xe) (c := 251) (by omega), hC]
            refine x_Si 148 (pX8_referenceNibbles _ (by have := (hS.2.2.2 xe (by omega)).2.1; have e1 : 8 + 2 + 3 * xe = 10 + 3 * xe := (by omega); rw [e1] at this; have h7 := (hS.2.2.2 xe (by omega)).1; rw [e1] at h7; omega)) FX8_referenceNibbles VX8_referenceNibbles CX3_136 (xd DX3_placeAll rfl) rfl rfl (by decide) (Nat.le_of_ble_eq_true rfl) (by decide) rfl ?_
            rintro z9 h9 ⟨q1, q2⟩
            rw [q1, q2]
            clear q1 q2 z9 h9
            refine x_iadd 149 (xd DX3_placeAll rfl) rfl ?_
            refine x_pi 152 13 rfl LX3_142 (xd DX3_placeAll rfl) rfl rfl ⟨Or.inr ⟨rfl, by decide⟩, by decide⟩ rfl ?_
            refine WX.locals (L' := [(0, _), (1, _), (2, _), (3, _), (4, _)]) (fun q hq => List.mem_append_left _ hq) ?_
            refine j152 (by omega) _ _ _ _ ?_ ?_ ?_ ?_ ?_ ?_ ?_ ?_
            all_goals first | exact (hO.tr (Off.set (by unfold SPA; omega))).tr (Off.set (by unfold SPA; omega)) | exact hO.tr (Off.set (by unfold SPA; omega)) | skip
            · intro j a
              first | (rw [hset_i (by omega), hset_c (by decide)]; exact h192 j a) | (rw [hset_c (by decide)]; exact h192 j a)
            · rw [csN_s]
              first | (rw [hset_s, if_pos hz, if_pos (by omega)]) | (rw [hset_s, if_pos hz, if_neg (by omega), he]; try rfl) | (rw [hset_c (by decide), if_neg hz]; exact hL)
            · first | (rw [hset_c (by decide), hset_s, if_pos hz]) | (rw [hset_s, if_neg hz])
            · intro j a
              first | exact (hpf j a).keep (by rw [hset_c (by decide), hset_c (by decide)]) (by rw [hset_c (by decide), hset_c (by decide)]) (by rw [hset_c (by decide), hset_i (by omega)]) (by rw [hset_c (by decide), hset_c (by decide)]) | exact (hpf j a).keep (by rw [hset_c (by decide)]) (by rw [hset_c (by decide)]) (by rw [hset_i (by omega)]) (by rw [hset_c (by decide)])
            all_goals rw [csN_s]
            · first | rw [if_pos hz, if_pos (by omega)] | (rw [if_pos hz, if_neg (by omega), he]) | (rw [if_neg hz]; exact q1)
            · first | (rw [if_pos hz, if_pos (by omega)]; try rfl) | (rw [if_pos hz, if_neg (by omega)]; try rfl) | (rw [if_neg hz, q2])
            · first | (rw [if_pos hz, if_pos (by omega)]; try rfl) | (rw [if_pos hz, if_neg (by omega), he]; try rfl) | (rw [if_neg hz, q3])
          · refine x_iconst 79 (xd DX3_placeAll rfl) rfl ?_
            refine x_goto 83 (xd DX3_placeAll rfl) rfl ?_
            refine x_istore 85 (L' := [(0, _), (1, _), (2, _), (3, _), (4, _), (5, _), (6, _)]) (xd DX3_placeAll rfl) (by decide) rfl rfl rfl ?_
            refine x_iload 87 (xd DX3_placeAll rfl) rfl rfl ?_
            refine x_if_eq 90 94 (xd DX3_placeAll rfl) rfl (by omega) rfl (fun c87 => absurd c87 (by decide)) (fun _ => ?_)
            refine x_iconst 91 (xd DX3_placeAll rfl) rfl ?_
            refine x_goto 106 (xd DX3_placeAll rfl) rfl ?_
            (try rw [hset_c (d := 10 + 3 * xe) (c := 251) (by omega), hC])
            refine x_istore_n 107 (L' := [(0, _), (1, _), (2, _), (3, _), (4, _), (5, _), (6, _)]) (xd DX3_placeAll rfl) (by decide) rfl rfl rfl ?_
            refine x_aload_n 108 (xd DX3_placeAll rfl) rfl rfl ?_
            refine x_dupr 109 (xd DX3_placeAll rfl) rfl ?_
            refine x_gi 112 13 rfl LX3_142 (xd DX3_placeAll rfl) rfl ⟨Or.inr ⟨rfl, by decide⟩, by decide⟩ rfl ?_
            rw [hset_c (d := 192) (c := 251) (by decide), hL]
            refine x_iload 114 (xd DX3_placeAll rfl) rfl rfl ?_
            refine x_if_eq 117 133 (xd DX3_placeAll rfl) rfl (by omega) rfl (fun c114 => absurd c114 (by decide)) (fun _ => ?_)
            refine x_aload_n 118 (xd DX3_placeAll rfl) rfl rfl ?_
            refine x_gr 121 _ LX3_51 (xd DX3_placeAll rfl) rfl rfl ⟨by decide, by decide⟩ (by decide) rfl rfl ?_
            refine x_gr 124 _ LX3_88 (xd DX3_placeAll rfl) rfl rfl ⟨by decide, by decide⟩ (by decide) rfl rfl ?_
            refine x_iload 126 (xd DX3_placeAll rfl) rfl rfl ?_
            refine x_iaload 127 (xd DX3_placeAll rfl) rfl ⟨Or.inr ⟨rfl, by decide⟩, by decide⟩ (by decide) (by omega) (by omega) rfl ?_
            rw [hset_c (d := 5) (c := 251) (by decide), e5]
            refine x_Si 130 (pX8_nibblesOf _ (by have := hP.v (i := (xi : Int)) (by omega) (by omega); omega)) FX8_nibblesOf VX8_nibblesOf CX3_115 (xd DX3_placeAll rfl) rfl rfl (by decide) (Nat.le_of_ble_eq_true rfl) (by decide) rfl ?_
            rintro z9 h9 ⟨q1, q2⟩
            rw [q1, q2]
            clear q1 q2 z9 h9
            refine x_goto 148 (xd DX3_placeAll rfl) rfl ?_
            refine x_iadd 149 (xd DX3_placeAll rfl) rfl ?_
            refine x_pi 152 13 rfl LX3_142 (xd DX3_placeAll rfl) rfl rfl ⟨Or.inr ⟨rfl, by decide⟩, by decide⟩ rfl ?_
            refine WX.locals (L' := [(0, _), (1, _), (2, _), (3, _), (4, _)]) (fun q hq => List.mem_append_left _ hq) ?_
            refine j152 (by omega) _ _ _ _ ?_ ?_ ?_ ?_ ?_ ?_ ?_ ?_
            all_goals first | exact (hO.tr (Off.set (by unfold SPA; omega))).tr (Off.set (by unfold SPA; omega)) | exact hO.tr (Off.set (by unfold SPA; omega)) | skip
            · intro j a
              first | (rw [hset_i (by omega), hset_c (by decide)]; exact h192 j a) | (rw [hset_c (by decide)]; exact h192 j a)
            · rw [csN_s]
              first | (rw [hset_s, if_pos hz, if_pos (by omega)]) | (rw [hset_s, if_pos hz, if_neg (by omega), he]; try rfl) | (rw [hset_c (by decide), if_neg hz]; exact hL)
            · first | (rw [hset_c (by decide), hset_s, if_pos hz]) | (rw [hset_s, if_neg hz])
            · intro j a
              first | exact (hpf j a).keep (by rw [hset_c (by decide), hset_c (by decide)]) (by rw [hset_c (by decide), hset_c (by decide)]) (by rw [hset_c (by decide), hset_i (by omega)]) (by rw [hset_c (by decide), hset_c (by decide)]) | exact (hpf j a).keep (by rw [hset_c (by decide)]) (by rw [hset_c (by decide)]) (by rw [hset_i (by omega)]) (by rw [hset_c (by decide)])
            all_goals rw [csN_s]
            · first | rw [if_pos hz, if_pos (by omega)] | (rw [if_pos hz, if_neg (by omega), he]) | (rw [if_neg hz]; exact q1)
            · first | (rw [if_pos hz, if_pos (by omega)]; try rfl) | (rw [if_pos hz, if_neg (by omega)]; try rfl) | (rw [if_neg hz, q2])
            · first | (rw [if_pos hz, if_pos (by omega)]; try rfl) | (rw [if_pos hz, if_neg (by omega), he]; try rfl) | (rw [if_neg hz, q3])
  refine x_bipush 2 (xd DX3_placeAll rfl) rfl rfl ?_
  refine x_istore_n 3 (L' := [(0, _), (1, _)]) (xd DX3_placeAll rfl) (by decide) rfl rfl rfl ?_
  refine x_iconst 4 (xd DX3_placeAll rfl) rfl ?_
  refine x_istore_n 5 (L' := [(0, _), (1, _), (2, _)]) (xd DX3_placeAll rfl) (by decide) rfl rfl rfl ?_
  refine x_iconst 6 (xd DX3_placeAll rfl) rfl ?_
  refine x_istore_n 7 (L' := [(0, _), (1, _), (2, _), (3, _)]) (xd DX3_placeAll rfl) (by decide) rfl rfl rfl ?_
  refine x_aload_n 8 (xd DX3_placeAll rfl) rfl rfl ?_
  refine x_iconst 9 (xd DX3_placeAll rfl) rfl ?_
  refine x_pi 12 13 rfl LX3_142 (xd DX3_placeAll rfl) rfl rfl ⟨Or.inr ⟨rfl, by decide⟩, by decide⟩ rfl ?_
  refine x_iconst 13 (xd DX3_placeAll rfl) rfl ?_
  refine x_istore 15 (L' := [(0, _), (1, _), (2, _), (3, _), (4, _)]) (xd DX3_placeAll rfl) (by decide) rfl rfl rfl ?_
  refine loop 100 0 _ _ _ _ (by omega) (by omega) (Off.set (by unfold SPA; omega)) (fun j a => by rw [hset_i a]) (by rw [hset_s]; rfl) (fun j a => absurd a (by omega)) rfl rfl rfl
end
section
/-! Layout: the nibbles laid -/
theorem kOwn_s {k : Int} (q : kSim k) : kOwn k = 2 := by unfold kOwn; exact if_pos q
theorem kOwn_t {k : Int} (q : ¬ kSim k) (q2 : kTgt k) : kOwn k = 4 := by unfold kOwn; rw [if_neg (show ¬ (0 ≤ k ∧ k ≤ 6) from q)]; exact if_pos q2
theorem kOwn_o {k : Int} (q : ¬ kSim k) (q2 : ¬ kTgt k) : kOwn k = 1 := by unfold kOwn; rw [if_neg (show ¬ (0 ≤ k ∧ k ≤ 6) from q)]; exact if_neg q2
theorem kRef_n {k : Int} (q : k < 0) : kRef k = 2 := by unfold kRef; exact if_pos q
theorem kRef_p {k : Int} (q : 0 ≤ k) : kRef k = 3 := by unfold kRef; exact if_neg (by omega)
theorem o253 {h : XH} {k z : Int} : Off (fun c => c = 253) h (hset h 253 k z) := Off.set rfl
/-- the t-th nibble of what begins at instruction i -/
def nib (h : XH) (i : Nat) (t : Int) : Int :=
  if h 249 i < 0 then (if t = 0 then h 5 i else if h 5 i ≤ 6 then h 6 i else if t = 1 then h 251 (h 6 i) / 256 % 16 else if t = 2 then h 251 (h 6 i) / 16 % 16 else h 251 (h 6 i) % 16)
  else if t = 0 then 15 else if t = 1 then h 249 i else h 6 (i + h (10 + 3 * (h 249 i).toNat) 3)
def wid (h : XH) (i : Nat) : Int := if h 249 i < 0 then kOwn (h 5 i) else kRef (h (10 + 3 * (h 249 i).toNat) 3)
def Laid (h h' : XH) (i : Nat) : Prop := Off (fun c => c = 253) h h' ∧ (∀ t, 0 ≤ t → t < wid h i → h' 253 (h 251 i + t) = nib h i t) ∧ ∀ x, (x < h 251 i ∨ h 251 i + wid h i ≤ x) → h' 253 x = h 253 x
set_option maxRecDepth 100000 in
set_option maxHeartbeats 4000000 in
theorem pX3_layReference {K : XK} {n : Nat} {h : XH} (i xe : Nat) (hi : i < 48) (hxe : xe < 8) (ho : h 249 i = (xe : Int)) (ha : 0 ≤ h 251 i) (hb : h 251 i + kRef (h (10 + 3 * xe) 3) ≤ 192) (hh : h (10 + 3 * xe) 3 = -4 ∨ (0 ≤ h (10 + 3 * xe) 3 ∧ i + h (10 + 3 * xe) 3 < 48)) : MV K mX3_layReference 0 n [vr 192, vi (i : Int)] h (fun h' => Laid h h' i) := by
  refine xMeth FX3_layReference (Nat.le_of_ble_eq_true rfl) ?_
  have hkr := kRef_rg (h (10 + 3 * xe) 3)
  have hb3 : 0 ≤ h (10 + 3 * xe) 3 → h 251 i + 3 ≤ 192 := fun q => by rw [kRef_p q] at hb; exact hb
  refine x_aload_n 1 (xd DX3_layReference rfl) rfl rfl ?_
  refine x_gr 4 _ LX3_42 (xd DX3_layReference rfl) rfl rfl ⟨by decide, by decide⟩ (by decide) rfl rfl ?_
  refine x_iload_n 5 (xd DX3_layReference rfl) rfl rfl ?_
  refine x_iaload 6 (xd DX3_layReference rfl) rfl ⟨Or.inr ⟨rfl, by decide⟩, by decide⟩ (by decide) (by omega) (by omega) rfl ?_
  refine x_istore_n 7 (L' := [(0, _), (1, _), (2, _)]) (xd DX3_layReference rfl) (by decide) rfl rfl rfl ?_
  refine x_aload_n 8 (xd DX3_layReference rfl) rfl rfl ?_
  refine x_gr 11 _ LX3_55 (xd DX3_layReference rfl) rfl rfl ⟨by decide, by decide⟩ (by decide) rfl rfl ?_
  refine x_gr 14 _ LX3_125 (xd DX3_layReference rfl) rfl rfl ⟨by decide, by decide⟩ (by decide) rfl rfl ?_
  refine x_aload_n 15 (xd DX3_layReference rfl) rfl rfl ?_
  refine x_gr 18 _ LX3_36 (xd DX3_layReference rfl) rfl rfl ⟨by decide, by decide⟩ (by decide) rfl rfl ?_
  refine x_iload_n 19 (xd DX3_layReference rfl) rfl rfl ?_
  refine x_iaload 20 (xd DX3_layReference rfl) rfl ⟨Or.inr ⟨rfl, by decide⟩, by decide⟩ (by decide) (by omega) (by omega) rfl ?_
  rw [ho]
  refine x_aaload 21 (10 + 3 * xe) (xd DX3_layReference rfl) rfl (by decide) ⟨by decide, by decide⟩ (by decide) rfl (by omega) (xRF_9 ⟨xe, hxe⟩) (by omega) rfl rfl ?_
  refine x_gi 24 3 rfl LX3_133 (xd DX3_layReference rfl) (xEnt_10 ⟨xe, hxe⟩).1 ⟨Or.inr ⟨rfl, by show 10 + 3 * xe < 259; omega⟩, by omega⟩ rfl ?_
  refine x_istore_n 25 (L' := [(0, _), (1, _), (2, _), (3, _)]) (xd DX3_layReference rfl) (by decide) rfl rfl rfl ?_
  refine x_aload_n 26 (xd DX3_layReference rfl) rfl rfl ?_
  refine x_gr 29 _ LX3_48 (xd DX3_layReference rfl) rfl rfl ⟨by decide, by decide⟩ (by decide) rfl rfl ?_
  refine x_iload_n 30 (xd DX3_layReference rfl) rfl rfl ?_
  refine x_bipush 32 (xd DX3_layReference rfl) rfl rfl ?_
  refine x_iastore 33 (xd DX3_layReference rfl) rfl ⟨Or.inr ⟨rfl, by decide⟩, by decide⟩ (by decide) (by omega) (by omega) rfl ?_
  refine x_aload_n 34 (xd DX3_layReference rfl) rfl rfl ?_
  refine x_gr 37 _ LX3_48 (xd DX3_layReference rfl) rfl rfl ⟨by decide, by decide⟩ (by decide) rfl rfl ?_
  refine x_iload_n 38 (xd DX3_layReference rfl) rfl rfl ?_
  refine x_iconst 39 (xd DX3_layReference rfl) rfl ?_
  refine x_iadd 40 (xd DX3_layReference rfl) rfl ?_
  refine x_aload_n 41 (xd DX3_layReference rfl) rfl rfl ?_
  refine x_gr 44 _ LX3_36 (xd DX3_layReference rfl) rfl rfl ⟨by decide, by decide⟩ (by decide) rfl rfl ?_
  refine x_iload_n 45 (xd DX3_layReference rfl) rfl rfl ?_
  refine x_iaload 46 (xd DX3_layReference rfl) rfl ⟨Or.inr ⟨rfl, by decide⟩, by decide⟩ (by decide) (by omega) (by omega) rfl ?_
  rw [hset_c (d := 249) (c := 253) (by decide), ho]
  refine x_iastore 47 (xd DX3_layReference rfl) rfl ⟨Or.inr ⟨rfl, by decide⟩, by decide⟩ (by decide) (by omega) (by omega) rfl ?_
  refine x_iload_n 48 (xd DX3_layReference rfl) rfl rfl ?_
  refine x_if_lt 51 70 (xd DX3_layReference rfl) rfl (by omega) rfl (fun c48 => ?_) (fun c48 => ?_)
  · refine x_rv (xd DX3_layReference rfl) rfl ?_
    refine ⟨?_, ?_, ?_⟩
    · first | exact (o253.tr o253).tr o253 | exact o253.tr o253
    · intro t t0 t1
      unfold wid at t1
      rw [ho, if_neg (by omega), Int.toNat_natCast] at t1
      unfold nib
      rw [ho, if_neg (by omega), Int.toNat_natCast]
      by_cases q0 : t = 0
      · subst q0
        rw [if_pos rfl]
        first | rw [hset_i (by omega), hset_i (by omega), show h 251 i + 0 = h 251 i by omega, hset_s] | rw [hset_i (by omega), show h 251 i + 0 = h 251 i by omega, hset_s]
      · rw [if_neg q0]
        by_cases q1 : t = 1
        · subst q1
          rw [if_pos rfl]
          first | rw [hset_i (by omega), hset_s] | rw [hset_s]
        · rw [if_neg q1]
          first
            | (exfalso; rw [kRef_n c48] at t1; omega)
            | (rw [kRef_p c48] at t1; rw [show t = 2 by omega, hset_s])
    · intro x hx
      unfold wid at hx
      rw [ho, if_neg (by omega), Int.toNat_natCast] at hx
      first | (rw [kRef_n c48] at hx; rw [hset_i (by omega), hset_i (by omega)]) | (rw [kRef_p c48] at hx; rw [hset_i (by omega), hset_i (by omega), hset_i (by omega)])
  · refine x_aload_n 52 (xd DX3_layReference rfl) rfl rfl ?_
    refine x_gr 55 _ LX3_48 (xd DX3_layReference rfl) rfl rfl ⟨by decide, by decide⟩ (by decide) rfl rfl ?_
    refine x_iload_n 56 (xd DX3_layReference rfl) rfl rfl ?_
    refine x_iconst 57 (xd DX3_layReference rfl) rfl ?_
    refine x_iadd 58 (xd DX3_layReference rfl) rfl ?_
    refine x_aload_n 59 (xd DX3_layReference rfl) rfl rfl ?_
    refine x_gr 62 _ LX3_51 (xd DX3_layReference rfl) rfl rfl ⟨by decide, by decide⟩ (by decide) rfl rfl ?_
    refine x_gr 65 _ LX3_150 (xd DX3_layReference rfl) rfl rfl ⟨by decide, by decide⟩ (by decide) rfl rfl ?_
    refine x_iload_n 66 (xd DX3_layReference rfl) rfl rfl ?_
    refine x_iload_n 67 (xd DX3_layReference rfl) rfl rfl ?_
    refine x_iadd 68 (xd DX3_layReference rfl) rfl ?_
    refine x_iaload 69 (xd DX3_layReference rfl) rfl ⟨Or.inr ⟨rfl, by decide⟩, by decide⟩ (by decide) (by omega) (by omega) rfl ?_
    rw [hset_c (d := 6) (c := 253) (by decide), hset_c (d := 6) (c := 253) (by decide)]
    refine x_iastore 70 (xd DX3_layReference rfl) rfl ⟨Or.inr ⟨rfl, by decide⟩, by decide⟩ (by decide) (by omega) (by omega) rfl ?_
    refine x_rv (xd DX3_layReference rfl) rfl ?_
    refine ⟨?_, ?_, ?_⟩
    · first | exact (o253.tr o253).tr o253 | exact o253.tr o253
    · intro t t0 t1
      unfold wid at t1
      rw [ho, if_neg (by omega), Int.toNat_natCast] at t1
      unfold nib
      rw [ho, if_neg (by omega), Int.toNat_natCast]
      by_cases q0 : t = 0
      · subst q0
        rw [if_pos rfl]
        first | rw [hset_i (by omega), hset_i (by omega), show h 251 i + 0 = h 251 i by omega, hset_s] | rw [hset_i (by omega), show h 251 i + 0 = h 251 i by omega, hset_s]
      · rw [if_neg q0]
        by_cases q1 : t = 1
        · subst q1
          rw [if_pos rfl]
          first | rw [hset_i (by omega), hset_s] | rw [hset_s]
        · rw [if_neg q1]
          first
            | (exfalso; rw [kRef_n c48] at t1; omega)
            | (rw [kRef_p c48] at t1; rw [show t = 2 by omega, hset_s])
    · intro x hx
      unfold wid at hx
      rw [ho, if_neg (by omega), Int.toNat_natCast] at hx
      first | (rw [kRef_n c48] at hx; rw [hset_i (by omega), hset_i (by omega)]) | (rw [kRef_p c48] at hx; rw [hset_i (by omega), hset_i (by omega), hset_i (by omega)])

set_option maxRecDepth 100000 in
set_option maxHeartbeats 4000000 in
theorem pX3_layAlone {K : XK} {n : Nat} {h : XH} (i : Nat) (hP : PW h) (hi : (i : Int) < h 4 3) (ho : h 249 i < 0) (ha : 0 ≤ h 251 i) (hb : h 251 i + kOwn (h 5 i) ≤ 192) (hq : ∀ j, 0 ≤ j → j < h 4 3 → xrg (h 251 j)) : MV K mX3_layAlone 1 n [vr 192, vi (i : Int)] h (fun h' => Laid h h' i) := by
  refine xMeth FX3_layAlone (Nat.le_of_ble_eq_true rfl) ?_
  have hP1 := hP.1
  obtain ⟨⟨k1, k2⟩, v1, v2⟩ := hP.v (i := (i : Int)) (by omega) hi
  have hv1 := (hP.2 (i : Int) (by omega) hi).2.1
  have hv2 := (hP.2 (i : Int) (by omega) hi).2.2.1
  have hko : kSim (h 5 i) → h 251 i + 2 ≤ 192 := fun q => by rw [kOwn_s q] at hb; exact hb
  have hkt : ¬ kSim (h 5 i) → kTgt (h 5 i) → h 251 i + 4 ≤ 192 := fun q q2 => by rw [kOwn_t q q2] at hb; exact hb
  have hk1 := kOwn_rg (h 5 i)
  refine x_aload_n 1 (xd DX3_layAlone rfl) rfl rfl ?_
  refine x_gr 4 _ LX3_42 (xd DX3_layAlone rfl) rfl rfl ⟨by decide, by decide⟩ (by decide) rfl rfl ?_
  refine x_iload_n 5 (xd DX3_layAlone rfl) rfl rfl ?_
  refine x_iaload 6 (xd DX3_layAlone rfl) rfl ⟨Or.inr ⟨rfl, by decide⟩, by decide⟩ (by decide) (by omega) (by omega) rfl ?_
  refine x_istore_n 7 (L' := [(0, _), (1, _), (2, _)]) (xd DX3_layAlone rfl) (by decide) rfl rfl rfl ?_
  refine x_aload_n 8 (xd DX3_layAlone rfl) rfl rfl ?_
  refine x_gr 11 _ LX3_51 (xd DX3_layAlone rfl) rfl rfl ⟨by decide, by decide⟩ (by decide) rfl rfl ?_
  refine x_gr 14 _ LX3_88 (xd DX3_layAlone rfl) rfl rfl ⟨by decide, by decide⟩ (by decide) rfl rfl ?_
  refine x_iload_n 15 (xd DX3_layAlone rfl) rfl rfl ?_
  refine x_iaload 16 (xd DX3_layAlone rfl) rfl ⟨Or.inr ⟨rfl, by decide⟩, by decide⟩ (by decide) (by omega) (by omega) rfl ?_
  refine x_istore_n 17 (L' := [(0, _), (1, _), (2, _), (3, _)]) (xd DX3_layAlone rfl) (by decide) rfl rfl rfl ?_
  refine x_aload_n 18 (xd DX3_layAlone rfl) rfl rfl ?_
  refine x_gr 21 _ LX3_48 (xd DX3_layAlone rfl) rfl rfl ⟨by decide, by decide⟩ (by decide) rfl rfl ?_
  refine x_iload_n 22 (xd DX3_layAlone rfl) rfl rfl ?_
  refine x_iload_n 23 (xd DX3_layAlone rfl) rfl rfl ?_
  refine x_iastore 24 (xd DX3_layAlone rfl) rfl ⟨Or.inr ⟨rfl, by decide⟩, by decide⟩ (by decide) (by omega) (by omega) rfl ?_
  refine x_iload_n 25 (xd DX3_layAlone rfl) rfl rfl ?_
  refine x_Si 28 (pX8_isSimple _ (by omega)) FX8_isSimple VX8_isSimple CX3_91 (xd DX3_layAlone rfl) rfl rfl (by decide) (Nat.le_of_ble_eq_true rfl) (by decide) rfl ?_
  rintro z9 h9 ⟨q1, q2⟩
  rw [q1, q2]
  clear q1 q2 z9 h9
  refine x_ifp_eq 31 51 (xd DX3_layAlone rfl) rfl rfl (fun c28 => ?_) (fun c28 => ?_)
  · refine x_iload_n 52 (xd DX3_layAlone rfl) rfl rfl ?_
    refine x_Si 55 (pX8_hasTarget _ (by omega)) FX8_hasTarget VX8_hasTarget CX3_153 (xd DX3_layAlone rfl) rfl rfl (by decide) (Nat.le_of_ble_eq_true rfl) (by decide) rfl ?_
    rintro z9 h9 ⟨q1, q2⟩
    rw [q1, q2]
    clear q1 q2 z9 h9
    refine x_ifp_eq 58 137 (xd DX3_layAlone rfl) rfl rfl (fun c55 => ?_) (fun c55 => ?_)
    · refine x_rv (xd DX3_layAlone rfl) rfl ?_
      refine ⟨?_, ?_, ?_⟩
      · first | exact ((o253.tr o253).tr o253).tr o253 | exact o253.tr o253 | exact o253
      · intro t t0 t1
        unfold wid at t1
        rw [if_pos ho] at t1
        unfold nib
        rw [if_pos ho]
        by_cases q0 : t = 0
        · subst q0
          rw [if_pos rfl, show h 251 i + 0 = h 251 i by omega]
          (repeat rw [hset_i (by omega)])
          rw [hset_s]
        · rw [if_neg q0]
          first
            | (rw [kOwn_s c28] at t1; rw [if_pos c28.2]; rw [show t = 1 by omega, hset_s])
            | (rw [kOwn_t c28 c55] at t1
               rw [if_neg (fun z => c28 ⟨by omega, z⟩)]
               by_cases q1 : t = 1
               · subst q1; rw [if_pos rfl, hset_i (by omega), hset_i (by omega), hset_s]; rfl
               · rw [if_neg q1]
                 by_cases q2 : t = 2
                 · subst q2; rw [if_pos rfl, hset_i (by omega), hset_s]; rfl
                 · rw [if_neg q2, show t = 3 by omega, hset_s])
            | (exfalso; rw [kOwn_o c28 c55] at t1; omega)
      · intro x hx
        unfold wid at hx
        rw [if_pos ho] at hx
        first
          | (rw [kOwn_s c28] at hx; rw [hset_i (by omega), hset_i (by omega)])
          | (rw [kOwn_t c28 c55] at hx; rw [hset_i (by omega), hset_i (by omega), hset_i (by omega), hset_i (by omega)])
          | (rw [kOwn_o c28 c55] at hx; rw [hset_i (by omega)])
    · have hk4 := hkt c28 c55
      refine x_aload_n 59 (xd DX3_layAlone rfl) rfl rfl ?_
      refine x_gr 62 _ LX3_51 (xd DX3_layAlone rfl) rfl rfl ⟨by decide, by decide⟩ (by decide) rfl rfl ?_
      refine x_aload_n 63 (xd DX3_layAlone rfl) rfl rfl ?_
      refine x_gr 66 _ LX3_51 (xd DX3_layAlone rfl) rfl rfl ⟨by decide, by decide⟩ (by decide) rfl rfl ?_
      refine x_gr 69 _ LX3_150 (xd DX3_layAlone rfl) rfl rfl ⟨by decide, by decide⟩ (by decide) rfl rfl ?_
      refine x_iload_n 70 (xd DX3_layAlone rfl) rfl rfl ?_
      refine x_iaload 71 (xd DX3_layAlone rfl) rfl ⟨Or.inr ⟨rfl, by decide⟩, by decide⟩ (by decide) (by omega) (by omega) rfl ?_
      rw [hset_c (d := 6) (c := 253) (by decide)]
      refine x_Vi 74 (pX4_has (h 6 i) (by omega) (by rw [hset_c (d := 4) (c := 253) (by decide)]; omega)) FX4_has VX4_has CX3_104 (xd DX3_layAlone rfl) rfl rfl rfl ⟨by decide, rfl⟩ ⟨by decide, by decide⟩ (by decide) (Nat.le_of_ble_eq_true rfl) (by decide) rfl ?_
      rintro z9 h9 ⟨q1, q2⟩
      rw [q1, q2]
      clear q1 q2 z9 h9
      rw [hset_c (d := 4) (c := 253) (by decide)]
      refine x_ifp_eq 77 137 (xd DX3_layAlone rfl) rfl rfl (fun c74 => ?_) (fun c74 => ?_)
      · exact absurd (hv2 c55.1 c55.2) c74
      · refine x_aload_n 78 (xd DX3_layAlone rfl) rfl rfl ?_
        refine x_gr 81 _ LX3_42 (xd DX3_layAlone rfl) rfl rfl ⟨by decide, by decide⟩ (by decide) rfl rfl ?_
        refine x_aload_n 82 (xd DX3_layAlone rfl) rfl rfl ?_
        refine x_gr 85 _ LX3_51 (xd DX3_layAlone rfl) rfl rfl ⟨by decide, by decide⟩ (by decide) rfl rfl ?_
        refine x_gr 88 _ LX3_150 (xd DX3_layAlone rfl) rfl rfl ⟨by decide, by decide⟩ (by decide) rfl rfl ?_
        refine x_iload_n 89 (xd DX3_layAlone rfl) rfl rfl ?_
        refine x_iaload 90 (xd DX3_layAlone rfl) rfl ⟨Or.inr ⟨rfl, by decide⟩, by decide⟩ (by decide) (by omega) (by omega) rfl ?_
        (try rw [hset_c (d := 6) (c := 253) (by decide)])
        refine x_iaload 91 (xd DX3_layAlone rfl) rfl ⟨Or.inr ⟨rfl, by decide⟩, by decide⟩ (by decide) (by omega) (by omega) rfl ?_
        rw [hset_c (d := 251) (c := 253) (by decide)]
        (try rw [hset_c (d := 6) (c := 253) (by decide)])
        refine x_istore 93 (L' := [(0, _), (1, _), (2, _), (3, _), (4, _)]) (xd DX3_layAlone rfl) (by decide) rfl rfl rfl ?_
        refine x_aload_n 94 (xd DX3_layAlone rfl) rfl rfl ?_
        refine x_gr 97 _ LX3_48 (xd DX3_layAlone rfl) rfl rfl ⟨by decide, by decide⟩ (by decide) rfl rfl ?_
        refine x_iload_n 98 (xd DX3_layAlone rfl) rfl rfl ?_
        refine x_iconst 99 (xd DX3_layAlone rfl) rfl ?_
        refine x_iadd 100 (xd DX3_layAlone rfl) rfl ?_
        refine x_iload 102 (xd DX3_layAlone rfl) rfl rfl ?_
        refine x_bipush 104 (xd DX3_layAlone rfl) rfl rfl ?_
        refine x_ishr 105 (k := 8) (by first | omega | exact hq _ (by omega) (by omega)) (by omega) (xd DX3_layAlone rfl) rfl ?_
        refine x_bipush 107 (xd DX3_layAlone rfl) rfl rfl ?_
        refine x_iand15 108 (xd DX3_layAlone rfl) rfl ?_
        refine x_iastore 109 (xd DX3_layAlone rfl) rfl ⟨Or.inr ⟨rfl, by decide⟩, by decide⟩ (by decide) (by omega) (by omega) rfl ?_
        refine x_aload_n 110 (xd DX3_layAlone rfl) rfl rfl ?_
        refine x_gr 113 _ LX3_48 (xd DX3_layAlone rfl) rfl rfl ⟨by decide, by decide⟩ (by decide) rfl rfl ?_
        refine x_iload_n 114 (xd DX3_layAlone rfl) rfl rfl ?_
        refine x_iconst 115 (xd DX3_layAlone rfl) rfl ?_
        refine x_iadd 116 (xd DX3_layAlone rfl) rfl ?_
        refine x_iload 118 (xd DX3_layAlone rfl) rfl rfl ?_
        refine x_iconst 119 (xd DX3_layAlone rfl) rfl ?_
        refine x_ishr 120 (k := 4) (by first | omega | exact hq _ (by omega) (by omega)) (by omega) (xd DX3_layAlone rfl) rfl ?_
        refine x_bipush 122 (xd DX3_layAlone rfl) rfl rfl ?_
        refine x_iand15 123 (xd DX3_layAlone rfl) rfl ?_
        refine x_iastore 124 (xd DX3_layAlone rfl) rfl ⟨Or.inr ⟨rfl, by decide⟩, by decide⟩ (by decide) (by omega) (by omega) rfl ?_
        refine x_aload_n 125 (xd DX3_layAlone rfl) rfl rfl ?_
        refine x_gr 128 _ LX3_48 (xd DX3_layAlone rfl) rfl rfl ⟨by decide, by decide⟩ (by decide) rfl rfl ?_
        refine x_iload_n 129 (xd DX3_layAlone rfl) rfl rfl ?_
        refine x_iconst 130 (xd DX3_layAlone rfl) rfl ?_
        refine x_iadd 131 (xd DX3_layAlone rfl) rfl ?_
        refine x_iload 133 (xd DX3_layAlone rfl) rfl rfl ?_
        refine x_bipush 135 (xd DX3_layAlone rfl) rfl rfl ?_
        refine x_iand15 136 (xd DX3_layAlone rfl) rfl ?_
        refine x_iastore 137 (xd DX3_layAlone rfl) rfl ⟨Or.inr ⟨rfl, by decide⟩, by decide⟩ (by decide) (by omega) (by omega) rfl ?_
        refine x_rv (xd DX3_layAlone rfl) rfl ?_
        refine ⟨?_, ?_, ?_⟩
        · first | exact ((o253.tr o253).tr o253).tr o253 | exact o253.tr o253 | exact o253
        · intro t t0 t1
          unfold wid at t1
          rw [if_pos ho] at t1
          unfold nib
          rw [if_pos ho]
          by_cases q0 : t = 0
          · subst q0
            rw [if_pos rfl, show h 251 i + 0 = h 251 i by omega]
            (repeat rw [hset_i (by omega)])
            rw [hset_s]
          · rw [if_neg q0]
            first
              | (rw [kOwn_s c28] at t1; rw [if_pos c28.2]; rw [show t = 1 by omega, hset_s])
              | (rw [kOwn_t c28 c55] at t1
                 rw [if_neg (fun z => c28 ⟨by omega, z⟩)]
                 by_cases q1 : t = 1
                 · subst q1; rw [if_pos rfl, hset_i (by omega), hset_i (by omega), hset_s]; rfl
                 · rw [if_neg q1]
                   by_cases q2 : t = 2
                   · subst q2; rw [if_pos rfl, hset_i (by omega), hset_s]; rfl
                   · rw [if_neg q2, show t = 3 by omega, hset_s])
              | (exfalso; rw [kOwn_o c28 c55] at t1; omega)
        · intro x hx
          unfold wid at hx
          rw [if_pos ho] at hx
          first
            | (rw [kOwn_s c28] at hx; rw [hset_i (by omega), hset_i (by omega)])
            | (rw [kOwn_t c28 c55] at hx; rw [hset_i (by omega), hset_i (by omega), hset_i (by omega), hset_i (by omega)])
            | (rw [kOwn_o c28 c55] at hx; rw [hset_i (by omega)])
  · have hk2 := hko c28
    refine x_aload_n 32 (xd DX3_layAlone rfl) rfl rfl ?_
    refine x_gr 35 _ LX3_48 (xd DX3_layAlone rfl) rfl rfl ⟨by decide, by decide⟩ (by decide) rfl rfl ?_
    refine x_iload_n 36 (xd DX3_layAlone rfl) rfl rfl ?_
    refine x_iconst 37 (xd DX3_layAlone rfl) rfl ?_
    refine x_iadd 38 (xd DX3_layAlone rfl) rfl ?_
    refine x_aload_n 39 (xd DX3_layAlone rfl) rfl rfl ?_
    refine x_gr 42 _ LX3_51 (xd DX3_layAlone rfl) rfl rfl ⟨by decide, by decide⟩ (by decide) rfl rfl ?_
    refine x_gr 45 _ LX3_150 (xd DX3_layAlone rfl) rfl rfl ⟨by decide, by decide⟩ (by decide) rfl rfl ?_
    refine x_iload_n 46 (xd DX3_layAlone rfl) rfl rfl ?_
    refine x_iaload 47 (xd DX3_layAlone rfl) rfl ⟨Or.inr ⟨rfl, by decide⟩, by decide⟩ (by decide) (by omega) (by omega) rfl ?_
    rw [hset_c (d := 6) (c := 253) (by decide)]
    refine x_iastore 48 (xd DX3_layAlone rfl) rfl ⟨Or.inr ⟨rfl, by decide⟩, by decide⟩ (by decide) (by omega) (by omega) rfl ?_
    refine x_goto 137 (xd DX3_layAlone rfl) rfl ?_
    refine x_rv (xd DX3_layAlone rfl) rfl ?_
    refine ⟨?_, ?_, ?_⟩
    · first | exact ((o253.tr o253).tr o253).tr o253 | exact o253.tr o253 | exact o253
    · intro t t0 t1
      unfold wid at t1
      rw [if_pos ho] at t1
      unfold nib
      rw [if_pos ho]
      by_cases q0 : t = 0
      · subst q0
        rw [if_pos rfl, show h 251 i + 0 = h 251 i by omega]
        (repeat rw [hset_i (by omega)])
        rw [hset_s]
      · rw [if_neg q0]
        first
          | (rw [kOwn_s c28] at t1; rw [if_pos c28.2]; rw [show t = 1 by omega, hset_s])
          | (rw [kOwn_t c28 c55] at t1
             rw [if_neg (fun z => c28 ⟨by omega, z⟩)]
             by_cases q1 : t = 1
             · subst q1; rw [if_pos rfl, hset_i (by omega), hset_i (by omega), hset_s]; rfl
             · rw [if_neg q1]
               by_cases q2 : t = 2
               · subst q2; rw [if_pos rfl, hset_i (by omega), hset_s]; rfl
               · rw [if_neg q2, show t = 3 by omega, hset_s])
          | (exfalso; rw [kOwn_o c28 c55] at t1; omega)
    · intro x hx
      unfold wid at hx
      rw [if_pos ho] at hx
      first
        | (rw [kOwn_s c28] at hx; rw [hset_i (by omega), hset_i (by omega)])
        | (rw [kOwn_t c28 c55] at hx; rw [hset_i (by omega), hset_i (by omega), hset_i (by omega), hset_i (by omega)])
        | (rw [kOwn_o c28 c55] at hx; rw [hset_i (by omega)])
end
section
/-! Layout.layNibbles -/
theorem csN_up (h : XH) (i : Nat) : (csN h i).2.2.2 ≤ (csN h (i + 1)).2.2.2 := by
  rw [csN_s]
  have ho := kOwn_rg (h 5 i)
  have hr := kRef_rg (h (10 + 3 * (h 244 i).toNat) 3)
  split
  · split
    · show (csN h i).2.2.2 ≤ (csN h i).2.2.2 + kOwn (h 5 i); omega
    · show (csN h i).2.2.2 ≤ (csN h i).2.2.2 + kRef (h (10 + 3 * (h 244 i).toNat) 3); omega
  · exact Int.le_refl _
theorem csN_mono (h : XH) (i : Nat) : ∀ d : Nat, (csN h i).2.2.2 ≤ (csN h (i + d)).2.2.2
  | 0 => Int.le_refl _
  | d + 1 => Int.le_trans (csN_mono h i d) (csN_up h (i + d))
theorem csN_le (h : XH) {i j : Nat} (hij : i ≤ j) : (csN h i).2.2.2 ≤ (csN h j).2.2.2 := by
  have := csN_mono h i (j - i)
  rwa [show i + (j - i) = j by omega] at this
def PK2 (h : XH) : Prop := ∀ i, 0 ≤ i → i < h 4 3 → 0 ≤ h 244 i → i + h (10 + 3 * (h 244 i).toNat) 2 ≤ h 4 3
theorem head_facts {h : XH} {i : Nat} (hp : PF h h i) (ha : 0 ≤ h 251 i) : (csN h i).2.2.1 = 0 ∧ h 251 i = (csN h i).2.2.2 ∧ h 249 i = h 244 i ∧ h 251 i + wid h i = (csN h (i + 1)).2.2.2 := by
  obtain ⟨p1, p2, p3, p4⟩ := hp
  have hz : (csN h i).2.2.1 = 0 := by
    by_cases q : (csN h i).2.2.1 = 0
    · exact q
    · rw [if_neg q] at p3; omega
  rw [if_pos hz] at p3
  have e1 : h 249 i = h 244 i := by
    rw [p1, csN_s, if_pos hz]
    split <;> rfl
  refine ⟨hz, p3, e1, ?_⟩
  unfold wid
  rw [e1, p3, csN_s, if_pos hz]
  split <;> rfl
theorem nib_off {h xg : XH} {i : Nat} {t : Int} (hO : Off (fun c => c = 253) h xg) (hx : h 249 i < 0 ∨ (h 249 i).toNat < 8) : nib xg i t = nib h i t := by
  unfold nib
  rw [hO 249 (by decide), hO 5 (by decide), hO 6 (by decide), hO 251 (by decide)]
  rcases hx with q | q
  · rw [if_pos q, if_pos q]
  · rw [hO (10 + 3 * (h 249 i).toNat) (by omega)]
theorem wid_off {h xg : XH} {i : Nat} (hO : Off (fun c => c = 253) h xg) (hx : h 249 i < 0 ∨ (h 249 i).toNat < 8) : wid xg i = wid h i := by
  unfold wid
  rw [hO 249 (by decide), hO 5 (by decide)]
  rcases hx with q | q
  · rw [if_pos q, if_pos q]
  · rw [hO (10 + 3 * (h 249 i).toNat) (by omega)]
def Nibs (h g : XH) (N : Nat) : Prop := ∀ j : Nat, j < N → 0 ≤ h 251 j → ∀ t, 0 ≤ t → t < wid h j → g 253 (h 251 j + t) = nib h j t
theorem Nibs.step {h xg xq : XH} {i : Nat} (hPF : ∀ j : Nat, j ≤ i → PF h h j) (hO : Off (fun c => c = 253) h xg) (hx : h 249 i < 0 ∨ (h 249 i).toNat < 8) (ha : 0 ≤ h 251 i) (hn : Nibs h xg i) (hl : Laid xg xq i) : Nibs h xq (i + 1) ∧ Off (fun c => c = 253) h xq := by
  obtain ⟨l1, l2, l3⟩ := hl
  rw [wid_off hO hx, hO 251 (by decide)] at l2 l3
  refine ⟨fun j hj aj t t0 t1 => ?_, hO.tr l1⟩
  by_cases q : j = i
  · subst q
    rw [l2 t t0 t1, nib_off hO hx]
  · have h1 := (head_facts (hPF j (by omega)) aj).2.2.2
    have h2 := (head_facts (hPF i (by omega)) ha).2.1
    have h3 := csN_le h (i := j + 1) (j := i) (by omega)
    rw [l3 _ (Or.inl (by omega))]
    exact hn j (by omega) aj t t0 t1
set_option maxRecDepth 100000 in
set_option maxHeartbeats 4000000 in
theorem pX3_layNibbles {K : XK} {n : Nat} {h : XH} (hP : PW h) (hS : SW h 8) (hK : PK h) (hK2 : PK2 h) (hPF : ∀ j : Nat, (j : Int) < h 4 3 → PF h h j) : MV K mX3_layNibbles 2 n [vr 192] h (fun h' => Off (fun c => c = 253) h h' ∧ Nibs h h' (h 4 3).toNat) := by
  refine xMeth FX3_layNibbles (Nat.le_of_ble_eq_true rfl) ?_
  have hP1 := hP.1
  have hS1 := hS.1
  have hrg : ∀ x : Nat, (x : Int) < h 4 3 → xrg (h 251 x) ∧ xrg (h 249 x) := fun x q => by
    obtain ⟨p1, p2, p3, p4⟩ := hPF x q
    have r1 := csN_rg hP hS hK x (by omega)
    have r2 := csN_rg hP hS hK (x + 1) (by omega)
    rw [p1, p3]
    split <;> omega
  have loop : ∀ (m : Nat) (xi : Nat) (xg : XH), (xi : Int) ≤ h 4 3 → h 4 3 - xi < (m : Int) → Off (fun c => c = 253) h xg → Nibs h xg xi → WI K mX3_layNibbles 2 n (qV n fun h' => Off (fun c => c = 253) h h' ∧ Nibs h h' (h 4 3).toNat) 2 [(0, vr 192), (1, vi (xi : Int))] [] xg := by
    intro m
    induction m with
    | zero => intro xi xg a b; exact absurd b (by omega)
    | succ m ih =>
      intro xi xg h0 hm hO hN
      have e4 : xg 4 3 = h 4 3 := by rw [hO 4 (by decide)]
      have e5 : xg 5 = h 5 := hO 5 (by decide)
      have e249 : xg 249 = h 249 := hO 249 (by decide)
      have e251 : xg 251 = h 251 := hO 251 (by decide)
      have hPg : PW xg := hP.off hO (by decide) (by decide) (by decide) (by decide)
      have hPFi : (xi : Int) < h 4 3 → ∀ j : Nat, j ≤ xi → PF h h j := fun q j a => hPF j (by omega)
      refine x_iload_n 3 (xd DX3_layNibbles rfl) rfl rfl ?_
      refine x_aload_n 4 (xd DX3_layNibbles rfl) rfl rfl ?_
      refine x_gr 7 _ LX3_51 (xd DX3_layNibbles rfl) rfl rfl ⟨by decide, by decide⟩ (by decide) rfl rfl ?_
      refine x_gi 10 3 rfl LX3_68 (xd DX3_layNibbles rfl) rfl ⟨Or.inr ⟨rfl, by decide⟩, by decide⟩ rfl ?_
      refine x_icmp_ge 13 59 (xd DX3_layNibbles rfl) rfl (by omega) (by omega) rfl (fun c10 => ?_) (fun c10 => ?_)
      · refine x_rv (xd DX3_layNibbles rfl) rfl ?_
        refine ⟨hO, ?_⟩
        rw [show (h 4 3).toNat = xi by omega]
        exact hN
      · refine x_aload_n 14 (xd DX3_layNibbles rfl) rfl rfl ?_
        refine x_gr 17 _ LX3_42 (xd DX3_layNibbles rfl) rfl rfl ⟨by decide, by decide⟩ (by decide) rfl rfl ?_
        refine x_iload_n 18 (xd DX3_layNibbles rfl) rfl rfl ?_
        refine x_iaload 19 (xd DX3_layNibbles rfl) rfl ⟨Or.inr ⟨rfl, by decide⟩, by decide⟩ (by decide) (by omega) (by omega) rfl ?_
        rw [e251]
        refine x_if_lt 22 39 (xd DX3_layNibbles rfl) rfl (by have := hrg xi (by omega); omega) rfl (fun c19 => ?_) (fun c19 => ?_)
        · refine x_aload_n 40 (xd DX3_layNibbles rfl) rfl rfl ?_
          refine x_gr 43 _ LX3_42 (xd DX3_layNibbles rfl) rfl rfl ⟨by decide, by decide⟩ (by decide) rfl rfl ?_
          refine x_iload_n 44 (xd DX3_layNibbles rfl) rfl rfl ?_
          refine x_iaload 45 (xd DX3_layNibbles rfl) rfl ⟨Or.inr ⟨rfl, by decide⟩, by decide⟩ (by decide) (by omega) (by omega) rfl ?_
          rw [e251]
          refine x_if_lt 48 53 (xd DX3_layNibbles rfl) rfl (by have := hrg xi (by omega); omega) rfl (fun c45 => ?_) (fun c45 => ?_)
          · refine x_iinc 56 (L' := [(0, _), (1, _)]) (xd DX3_layNibbles rfl) rfl (by decide) rfl rfl rfl ?_
            refine x_goto 2 (xd DX3_layNibbles rfl) rfl ?_
            first | (exact ih (xi + 1) _ (by omega) (by omega) (Nibs.step (hPFi (by omega)) hO hx (by omega) hN hl).2 (Nibs.step (hPFi (by omega)) hO hx (by omega) hN hl).1) | (exact ih (xi + 1) _ (by omega) (by omega) hO (fun j a b => hN j (by by_cases q : j = xi; subst q; omega; omega) b))
          · obtain ⟨f1, f2, f3, f4⟩ := head_facts (hPF xi (by omega)) c45
            have hx : h 249 xi < 0 ∨ (h 249 xi).toNat < 8 := Or.inl (by omega)
            have hwd : wid h xi = kOwn (h 5 xi) := by unfold wid; rw [if_pos (by omega)]
            rw [hwd] at f4
            have hr4 := (csN_rg hP hS hK (xi + 1) (by omega)).2.2.2
            
            refine x_aload_n 49 (xd DX3_layNibbles rfl) rfl rfl ?_
            refine x_iload_n 50 (xd DX3_layNibbles rfl) rfl rfl ?_
            refine x_Vv 53 (pX3_layAlone xi hPg (by omega) (by rw [e249]; omega) (by rw [e251]; omega) (by rw [e251, e5]; omega) (fun j a b => by rw [e251]; rw [e4] at b; obtain ⟨xj, rfl⟩ := Int.eq_ofNat_of_zero_le a; have := (hPF xj (by omega)).2.2.1; have h9 := csN_rg hP hS hK xj (by omega); split at this <;> omega)) FX3_layAlone VX3_layAlone CX3_147 (xd DX3_layNibbles rfl) rfl rfl rfl ⟨by decide, rfl⟩ ⟨by decide, by decide⟩ (by decide) (Nat.le_of_ble_eq_true rfl) (by decide) rfl ?_
            intro xq hl
            refine x_iinc 56 (L' := [(0, _), (1, _)]) (xd DX3_layNibbles rfl) rfl (by decide) rfl rfl rfl ?_
            refine x_goto 2 (xd DX3_layNibbles rfl) rfl ?_
            first | (exact ih (xi + 1) _ (by omega) (by omega) (Nibs.step (hPFi (by omega)) hO hx (by omega) hN hl).2 (Nibs.step (hPFi (by omega)) hO hx (by omega) hN hl).1) | (exact ih (xi + 1) _ (by omega) (by omega) hO (fun j a b => hN j (by by_cases q : j = xi; subst q; omega; omega) b))
        · refine x_aload_n 23 (xd DX3_layNibbles rfl) rfl rfl ?_
          refine x_gr 26 _ LX3_36 (xd DX3_layNibbles rfl) rfl rfl ⟨by decide, by decide⟩ (by decide) rfl rfl ?_
          refine x_iload_n 27 (xd DX3_layNibbles rfl) rfl rfl ?_
          refine x_iaload 28 (xd DX3_layNibbles rfl) rfl ⟨Or.inr ⟨rfl, by decide⟩, by decide⟩ (by decide) (by omega) (by omega) rfl ?_
          rw [e249]
          refine x_if_lt 31 39 (xd DX3_layNibbles rfl) rfl (by have := hrg xi (by omega); omega) rfl (fun c28 => ?_) (fun c28 => ?_)
          · refine x_aload_n 40 (xd DX3_layNibbles rfl) rfl rfl ?_
            refine x_gr 43 _ LX3_42 (xd DX3_layNibbles rfl) rfl rfl ⟨by decide, by decide⟩ (by decide) rfl rfl ?_
            refine x_iload_n 44 (xd DX3_layNibbles rfl) rfl rfl ?_
            refine x_iaload 45 (xd DX3_layNibbles rfl) rfl ⟨Or.inr ⟨rfl, by decide⟩, by decide⟩ (by decide) (by omega) (by omega) rfl ?_
            rw [e251]
            refine x_if_lt 48 53 (xd DX3_layNibbles rfl) rfl (by have := hrg xi (by omega); omega) rfl (fun c45 => ?_) (fun c45 => ?_)
            · refine x_iinc 56 (L' := [(0, _), (1, _)]) (xd DX3_layNibbles rfl) rfl (by decide) rfl rfl rfl ?_
              refine x_goto 2 (xd DX3_layNibbles rfl) rfl ?_
              first | (exact ih (xi + 1) _ (by omega) (by omega) (Nibs.step (hPFi (by omega)) hO hx (by omega) hN hl).2 (Nibs.step (hPFi (by omega)) hO hx (by omega) hN hl).1) | (exact ih (xi + 1) _ (by omega) (by omega) hO (fun j a b => hN j (by by_cases q : j = xi; subst q; omega; omega) b))
            · obtain ⟨f1, f2, f3, f4⟩ := head_facts (hPF xi (by omega)) c45
              have hx : h 249 xi < 0 ∨ (h 249 xi).toNat < 8 := Or.inl (by omega)
              have hwd : wid h xi = kOwn (h 5 xi) := by unfold wid; rw [if_pos (by omega)]
              rw [hwd] at f4
              have hr4 := (csN_rg hP hS hK (xi + 1) (by omega)).2.2.2
              
              refine x_aload_n 49 (xd DX3_layNibbles rfl) rfl rfl ?_
              refine x_iload_n 50 (xd DX3_layNibbles rfl) rfl rfl ?_
              refine x_Vv 53 (pX3_layAlone xi hPg (by omega) (by rw [e249]; omega) (by rw [e251]; omega) (by rw [e251, e5]; omega) (fun j a b => by rw [e251]; rw [e4] at b; obtain ⟨xj, rfl⟩ := Int.eq_ofNat_of_zero_le a; have := (hPF xj (by omega)).2.2.1; have h9 := csN_rg hP hS hK xj (by omega); split at this <;> omega)) FX3_layAlone VX3_layAlone CX3_147 (xd DX3_layNibbles rfl) rfl rfl rfl ⟨by decide, rfl⟩ ⟨by decide, by decide⟩ (by decide) (Nat.le_of_ble_eq_true rfl) (by decide) rfl ?_
              intro xq hl
              refine x_iinc 56 (L' := [(0, _), (1, _)]) (xd DX3_layNibbles rfl) rfl (by decide) rfl rfl rfl ?_
              refine x_goto 2 (xd DX3_layNibbles rfl) rfl ?_
              first | (exact ih (xi + 1) _ (by omega) (by omega) (Nibs.step (hPFi (by omega)) hO hx (by omega) hN hl).2 (Nibs.step (hPFi (by omega)) hO hx (by omega) hN hl).1) | (exact ih (xi + 1) _ (by omega) (by omega) hO (fun j a b => hN j (by by_cases q : j = xi; subst q; omega; omega) b))
          · obtain ⟨xe, he⟩ := Int.eq_ofNat_of_zero_le c28
            obtain ⟨f1, f2, f3, f4⟩ := head_facts (hPF xi (by omega)) c19
            have hxe : xe < 8 := by have := hK (xi : Int) (by omega) (by omega); omega
            have hx : h 249 xi < 0 ∨ (h 249 xi).toNat < 8 := Or.inr (by omega)
            have hC : xg (10 + 3 * xe) = h (10 + 3 * xe) := hO _ (by show ¬ (10 + 3 * xe = 253); omega)
            have hw := hS.2.2.2 xe (by have := hK (xi : Int) (by omega) (by omega); omega)
            rw [show 8 + 2 + 3 * xe = 10 + 3 * xe by omega] at hw
            have hw1 := hw.1
            have hw2 := hw.2.1
            have hk2 := hK2 (xi : Int) (by omega) (by omega) (by omega)
            rw [← f3, he, Int.toNat_natCast] at hk2
            have hwd : wid h xi = kRef (h (10 + 3 * xe) 3) := by unfold wid; rw [if_neg (by omega), he, Int.toNat_natCast]
            rw [hwd] at f4
            have hr4 := (csN_rg hP hS hK (xi + 1) (by omega)).2.2.2
            
            refine x_aload_n 32 (xd DX3_layNibbles rfl) rfl rfl ?_
            refine x_iload_n 33 (xd DX3_layNibbles rfl) rfl rfl ?_
            refine x_Vv 36 (pX3_layReference xi xe (by omega) hxe (by rw [e249]; exact he) (by rw [e251]; omega) (by rw [e251, hC]; omega) (by rw [hC]; omega)) FX3_layReference VX3_layReference CX3_143 (xd DX3_layNibbles rfl) rfl rfl rfl ⟨by decide, rfl⟩ ⟨by decide, by decide⟩ (by decide) (Nat.le_of_ble_eq_true rfl) (by decide) rfl ?_
            intro xq hl
            refine x_goto 53 (xd DX3_layNibbles rfl) rfl ?_
            refine x_iinc 56 (L' := [(0, _), (1, _)]) (xd DX3_layNibbles rfl) rfl (by decide) rfl rfl rfl ?_
            refine x_goto 2 (xd DX3_layNibbles rfl) rfl ?_
            first | (exact ih (xi + 1) _ (by omega) (by omega) (Nibs.step (hPFi (by omega)) hO hx (by omega) hN hl).2 (Nibs.step (hPFi (by omega)) hO hx (by omega) hN hl).1) | (exact ih (xi + 1) _ (by omega) (by omega) hO (fun j a b => hN j (by by_cases q : j = xi; subst q; omega; omega) b))
  refine x_iconst 1 (xd DX3_layNibbles rfl) rfl ?_
  refine x_istore_n 2 (L' := [(0, _), (1, _)]) (xd DX3_layNibbles rfl) (by decide) rfl rfl rfl ?_
  exact loop 100 0 h (by omega) (by omega) Off.rf (fun j a => absurd a (by omega))
end
section
/-! Layout.reckon: the rows as the program and the setup want them -/
theorem ocell {h : XH} {c : Nat} {k z : Int} : Off (fun x => x = c) h (hset h c k z) := Off.set rfl
def KeepB (S : Nat → Prop) : Prop := ∀ c, (c = 4 ∨ c = 5 ∨ c = 6 ∨ c = 7 ∨ c = 193 ∨ (8 ≤ c ∧ c ≤ 33)) → ¬ S c
theorem Mt_off {S : Nat → Prop} {h xg : XH} (hO : Off S h xg) (hs : KeepB S) {e : Nat} (he : e < 8) (i : Int) : Mt xg (10 + 3 * e) i = Mt h (10 + 3 * e) i := Mt.off hO (hs 4 (by omega)) (hs 5 (by omega)) (hs 6 (by omega)) (hs 193 (by omega)) (hs _ (by omega)) (hs _ (by omega)) (hs _ (by omega))
theorem bst_off {S : Nat → Prop} {h xg : XH} (hO : Off S h xg) (hs : KeepB S) {fw : Int → Int} {i : Int} : ∀ e : Nat, e ≤ 8 → bst xg fw i e = bst h fw i e
  | 0, _ => by
    unfold bst
    rw [hO 5 (hs 5 (by omega))]
  | e + 1, he => by
    unfold bst
    rw [bst_off hO hs e (by omega), Mt_off hO hs (by omega), hO (10 + 3 * e) (hs _ (by omega))]
theorem shr_off {S : Nat → Prop} {h xg : XH} (hO : Off S h xg) (hs : KeepB S) {i p : Int} : ∀ e : Nat, e ≤ 8 → shr xg i p e = shr h i p e
  | 0, _ => rfl
  | e + 1, he => by
    unfold shr
    rw [shr_off hO hs e (by omega), Mt_off hO hs (by omega), hO (10 + 3 * e) (hs _ (by omega))]
theorem csN_off {S : Nat → Prop} {h xg : XH} (hO : Off S h xg) (hs : KeepB S) (h244 : ¬ S 244) (N : Nat) (hk : ∀ i : Nat, i < N → h 244 i < 8) : ∀ i : Nat, i ≤ N → csN xg i = csN h i
  | 0, _ => rfl
  | i + 1, hi => by
    rw [csN_s, csN_s, csN_off hO hs h244 N hk i (by omega), hO 244 h244, hO 5 (hs 5 (by omega)), hO (10 + 3 * (h 244 i).toNat) (hs _ (by have := hk i (by omega); omega))]
theorem bst_Mt {h : XH} {fw : Int → Int} {i : Int} : ∀ e : Nat, 0 ≤ (bst h fw i e).2 → Mt h (10 + 3 * (bst h fw i e).2.toNat) i
  | 0, q => absurd q (by show ¬ (0 : Int) ≤ -4; decide)
  | e + 1, q => by
    unfold bst at q ⊢
    by_cases c : Mt h (10 + 3 * e) i ∧ kRef (h (10 + 3 * e) 3) + fw (i + h (10 + 3 * e) 2) < (bst h fw i e).1
    · rw [pik_t c]
      show Mt h (10 + 3 * ((e : Int)).toNat) i
      rw [Int.toNat_natCast]
      exact c.1
    · rw [pik_f c] at q ⊢
      exact bst_Mt e q
/-- the layout's rows, self-contained -/
def LY (h : XH) : Prop := (∃ k : Nat, (k = 2 ∨ k = 3 ∨ k = 4) ∧ h 192 15 = (k : Int) ∧ h 8 2 = (2 ^ k : Nat) ∧ RchEq h k (h 193) 0) ∧ h 192 14 = (h 4 3 + h 8 2 - 1) / h 8 2 ∧ (∀ j, 0 ≤ j → j < h 4 3 → 0 ≤ h 193 j ∧ h 193 j ≤ 4) ∧ h 243 (h 4 3) = 0 ∧ FBEq h h 0 ∧ (∀ j, 0 ≤ j → j ≤ h 4 3 → 0 ≤ h 243 j ∧ h 243 j ≤ 4 * (h 4 3 - j)) ∧ h 192 13 = (csN h (h 4 3).toNat).2.2.2 ∧ (∀ j : Nat, (j : Int) < h 4 3 → PF h h j) ∧ Nibs h h (h 4 3).toNat
def SL (c : Nat) : Prop := 192 ≤ c ∧ c ≤ 253
theorem FB_PK {h : XH} (hS1 : 0 ≤ h 8 1 ∧ h 8 1 ≤ 8) (hq : FBEq h h 0) : PK h ∧ PK2 h := by
  refine ⟨fun i a b => ?_, fun i a b c => ?_⟩
  · have h1 := (hq i a b).2.1
    have h2 := bst_pk (h := h) (fw := h 243) (i := i) (h 8 1).toNat
    rw [← h1] at h2
    omega
  · have h1 := (hq i a b).2.1
    have h2 := bst_Mt (h := h) (fw := h 243) (i := i) (h 8 1).toNat (by rw [← h1]; exact c)
    rw [← h1] at h2
    have := h2.2.2.1
    omega
theorem SW.off {S : Nat → Prop} {h xg : XH} (hO : Off S h xg) (hs : KeepB S) (hS : SW h 8) : SW xg 8 := by
  obtain ⟨a, b, c, d⟩ := hS
  have e8 := hO 8 (hs 8 (by omega))
  refine ⟨by rw [e8]; exact a, by rw [e8]; exact b, by rw [e8]; exact c, fun e he => ?_⟩
  rw [e8] at he
  exact (d e he).off hO (hs _ (by omega)) (hs _ (by omega)) (hs _ (by omega))
set_option maxRecDepth 100000 in
set_option maxHeartbeats 4000000 in
theorem pX3_reckon {K : XK} {n : Nat} {h : XH} (hP : PW h) (hS : SW h 8) : MV K mX3_reckon 4 n [vr 192] h (fun h' => Off SL h h' ∧ LY h') := by
  refine xMeth FX3_reckon (Nat.le_of_ble_eq_true rfl) ?_
  have hP1 := hP.1
  have hW3 := hS.2.1
  have j33 : ∀ xk : Nat, (xk = 2 ∨ xk = 3 ∨ xk = 4) → h 8 2 = (2 ^ xk : Nat) → WI K mX3_reckon 4 n (qV n fun h' => Off SL h h' ∧ LY h') 33 [(0, vr 192)] [vi (xk : Int), vr 192] h := by
    intro xk hxk hxw
    refine x_pi 36 15 rfl LX3_65 (xd DX3_reckon rfl) rfl rfl ⟨Or.inr ⟨rfl, by decide⟩, by decide⟩ rfl ?_
    refine x_aload_n 37 (xd DX3_reckon rfl) rfl rfl ?_
    refine x_aload_n 38 (xd DX3_reckon rfl) rfl rfl ?_
    refine x_gr 41 _ LX3_51 (xd DX3_reckon rfl) rfl rfl ⟨by decide, by decide⟩ (by decide) rfl rfl ?_
    refine x_gi 44 3 rfl LX3_68 (xd DX3_reckon rfl) rfl ⟨Or.inr ⟨rfl, by decide⟩, by decide⟩ rfl ?_
    refine x_aload_n 45 (xd DX3_reckon rfl) rfl rfl ?_
    refine x_gr 48 _ LX3_55 (xd DX3_reckon rfl) rfl rfl ⟨by decide, by decide⟩ (by decide) rfl rfl ?_
    refine x_gi 51 2 rfl LX3_59 (xd DX3_reckon rfl) rfl ⟨Or.inr ⟨rfl, by decide⟩, by decide⟩ rfl ?_
    refine x_iadd 52 (xd DX3_reckon rfl) rfl ?_
    refine x_iconst 53 (xd DX3_reckon rfl) rfl ?_
    refine x_isub 54 (xd DX3_reckon rfl) rfl ?_
    refine x_aload_n 55 (xd DX3_reckon rfl) rfl rfl ?_
    refine x_gi 58 15 rfl LX3_65 (xd DX3_reckon rfl) rfl ⟨Or.inr ⟨rfl, by decide⟩, by decide⟩ rfl ?_
    rw [hset_s, hset_c (d := 4) (by decide), hset_c (d := 8) (by decide)]
    refine x_ishr 59 (k := xk) (by omega) (by omega) (xd DX3_reckon rfl) rfl ?_
    refine x_pi 62 14 rfl LX3_73 (xd DX3_reckon rfl) rfl rfl ⟨Or.inr ⟨rfl, by decide⟩, by decide⟩ rfl ?_
    refine x_aload_n 63 (xd DX3_reckon rfl) rfl rfl ?_
    generalize hz1 : hset (hset h 192 15 (xk : Int)) 192 14 ((h 4 3 + h 8 2 - 1) / (2 ^ xk : Nat)) = h1
    have o1 : Off (fun c => c = 192) h h1 := by rw [← hz1]; exact (ocell (c := 192)).tr ocell
    have P1 : PW h1 := hP.off o1 (by decide) (by decide) (by decide) (by decide)
    have k1 : h1 192 15 = (xk : Int) := by rw [← hz1, hset_i (by decide), hset_s]
    have l1 : h1 192 14 = (h 4 3 + h 8 2 - 1) / (2 ^ xk : Nat) := by rw [← hz1, hset_s]
    refine x_Vv 66 (pX3_measureReaches xk P1 k1 (by omega)) FX3_measureReaches VX3_measureReaches CX3_76 (xd DX3_reckon rfl) rfl rfl rfl ⟨by decide, rfl⟩ ⟨by decide, by decide⟩ (by decide) (Nat.le_of_ble_eq_true rfl) (by decide) rfl ?_
    rintro h2 ⟨o2, r2, b2⟩
    have P2 : PW h2 := P1.off o2 (by decide) (by decide) (by decide) (by decide)
    have kb12 : KeepB (fun c => c = 192) := fun c q => by omega
    have S1 : SW h1 8 := hS.off o1 kb12
    have S2 : SW h2 8 := by
      obtain ⟨a, b, c, d⟩ := S1
      have e8 := o2 8 (by decide)
      refine ⟨by rw [e8]; exact a, by rw [e8]; exact b, by rw [e8]; exact c, fun e he => ?_⟩
      rw [e8] at he
      exact (d e he).off o2 (by omega) (by omega) (by omega)
    have e41 : h1 4 = h 4 := o1 4 (by decide)
    have e42 : h2 4 = h1 4 := o2 4 (by decide)
    refine x_aload_n 67 (xd DX3_reckon rfl) rfl rfl ?_
    refine x_Vv 70 (pX3_findBest P2 S2 (by rw [e42]; exact b2)) FX3_findBest VX3_findBest CX3_79 (xd DX3_reckon rfl) rfl rfl rfl ⟨by decide, rfl⟩ ⟨by decide, by decide⟩ (by decide) (Nat.le_of_ble_eq_true rfl) (by decide) rfl ?_
    rintro h3 ⟨o3, z3, f3, b3⟩
    have kb3 : KeepB SFB := fun c q => by unfold SFB; omega
    have P3 : PW h3 := P2.off o3 (kb3 4 (by omega)) (kb3 5 (by omega)) (kb3 6 (by omega)) (kb3 7 (by omega))
    have S3 : SW h3 8 := S2.off o3 kb3
    have e43 : h3 4 = h2 4 := o3 4 (kb3 4 (by omega))
    have e83 : h3 8 = h2 8 := o3 8 (kb3 8 (by omega))
    have F3 : FBEq h3 h3 0 := by
      intro j a b
      rw [e43] at b
      have s8 := S2.1
      rw [e83, bst_off o3 kb3 _ (by omega)]
      obtain ⟨q1, q2, q3⟩ := f3 j a b
      refine ⟨q1, q2, fun p a b => ?_⟩
      rw [shr_off o3 kb3 _ (by omega)]
      exact q3 p a b
    obtain ⟨K3, K3b⟩ := FB_PK S3.1 F3
    refine x_aload_n 71 (xd DX3_reckon rfl) rfl rfl ?_
    refine x_Vv 74 (pX3_placeAll P3 S3 K3) FX3_placeAll VX3_placeAll CX3_82 (xd DX3_reckon rfl) rfl rfl rfl ⟨by decide, rfl⟩ ⟨by decide, by decide⟩ (by decide) (Nat.le_of_ble_eq_true rfl) (by decide) rfl ?_
    rintro h4 ⟨o4, t4, n4, p4⟩
    have kb4 : KeepB SPA := fun c q => by unfold SPA; omega
    have P4 : PW h4 := P3.off o4 (kb4 4 (by omega)) (kb4 5 (by omega)) (kb4 6 (by omega)) (kb4 7 (by omega))
    have S4 : SW h4 8 := S3.off o4 kb4
    have e44 : h4 4 = h3 4 := o4 4 (kb4 4 (by omega))
    have e84 : h4 8 = h3 8 := o4 8 (kb4 8 (by omega))
    have e2444 : h4 244 = h3 244 := o4 244 (by unfold SPA; omega)
    have c4 : ∀ i : Nat, (i : Int) ≤ h3 4 3 → csN h4 i = csN h3 i := fun i q => csN_off o4 kb4 (by unfold SPA; omega) (h3 4 3).toNat (fun x q => by have := K3 x (by omega) (by omega); have := S3.1; omega) i (by omega)
    have F4 : FBEq h4 h4 0 := by
      intro j a b
      rw [e44] at b
      have s8 := S3.1
      have e243 : h4 243 = h3 243 := o4 243 (by unfold SPA; omega)
      have erow : h4 (195 + j.toNat) = h3 (195 + j.toNat) := o4 _ (by unfold SPA; have := P3.1; omega)
      rw [e84, e243, e2444, erow, bst_off o4 kb4 _ (by omega)]
      obtain ⟨q1, q2, q3⟩ := F3 j a b
      refine ⟨q1, q2, fun p a b => ?_⟩
      rw [shr_off o4 kb4 _ (by omega)]
      exact q3 p a b
    obtain ⟨K4, K4b⟩ := FB_PK S4.1 F4
    have PF4 : ∀ j : Nat, (j : Int) < h4 4 3 → PF h4 h4 j := fun j q => by
      rw [e44] at q
      have := p4 j q
      unfold PF at this ⊢
      rw [c4 (j + 1) (by omega), c4 j (by omega)]
      exact this
    refine x_aload_n 75 (xd DX3_reckon rfl) rfl rfl ?_
    refine x_Vv 78 (pX3_layNibbles P4 S4 K4 K4b PF4) FX3_layNibbles VX3_layNibbles CX3_85 (xd DX3_reckon rfl) rfl rfl rfl ⟨by decide, rfl⟩ ⟨by decide, by decide⟩ (by decide) (Nat.le_of_ble_eq_true rfl) (by decide) rfl ?_
    rintro h5 ⟨o5, n5⟩
    refine x_rv (xd DX3_reckon rfl) rfl ?_
    have kb5 : KeepB (fun c => c = 253) := fun c q => by omega
    have e45 : h5 4 = h4 4 := o5 4 (by decide)
    have e85 : h5 8 = h4 8 := o5 8 (by decide)
    have e192 : h5 192 = h4 192 := o5 192 (by decide)
    have e193 : h5 193 = h2 193 := by rw [o5 193 (by decide), o4 193 (by unfold SPA; omega), o3 193 (by unfold SFB; omega)]
    have t3 : h3 192 = h2 192 := o3 192 (by unfold SFB; omega)
    have t2 : h2 192 = h1 192 := o2 192 (by decide)
    have e82 : h2 8 = h1 8 := o2 8 (by decide)
    have e81 : h1 8 = h 8 := o1 8 (by decide)
    have c5 : ∀ i : Nat, (i : Int) ≤ h4 4 3 → csN h5 i = csN h4 i := fun i q => csN_off o5 kb5 (by decide) (h4 4 3).toNat (fun x q => by have := K4 x (by omega) (by omega); have := S4.1; omega) i (by omega)
    have hN : h5 4 3 = h 4 3 := by rw [e45, e44, e43, e42, e41]
    have hW8 : h5 8 2 = h 8 2 := by rw [e85, e84, e83, e82, e81]
    refine ⟨?_, ⟨xk, hxk, ?_, ?_, ?_⟩, ?_, ?_, ?_, ?_, ?_, ?_, ?_, ?_⟩
    · exact ((((o1.mono (fun c q => by unfold SL; omega)).tr (o2.mono (fun c q => by unfold SL; omega))).tr (o3.mono (fun c q => by unfold SFB at q; unfold SL; omega))).tr (o4.mono (fun c q => by unfold SPA at q; unfold SL; omega))).tr (o5.mono (fun c q => by unfold SL; omega))
    · rw [e192, t4 15 (by decide), t3, t2, k1]
    · rw [hW8]; exact hxw
    · intro j a b
      rw [hN] at b
      rw [e193]
      have := r2 j a (by rw [e41]; exact b)
      rw [this]
      unfold rchF Lead
      rw [o5 5 (by decide), o4 5 (kb4 5 (by omega)), o3 5 (kb3 5 (by omega)), o2 5 (by decide), o5 7 (by decide), o4 7 (kb4 7 (by omega)), o3 7 (kb3 7 (by omega)), o2 7 (by decide), hN, e41]
    · rw [e192, t4 14 (by decide), t3, t2, l1, hN, hW8, hxw]
    · intro j a b
      rw [e193]
      exact b2 j a (by rw [e41, ← hN]; exact b)
    · rw [o5 243 (by decide), o4 243 (by unfold SPA; omega), e45, e44, e43]
      exact z3
    · intro j a b
      rw [e45] at b
      have s8 := S4.1
      have erow : h5 (195 + j.toNat) = h4 (195 + j.toNat) := o5 _ (by have := P4.1; show ¬ (195 + j.toNat = 253); omega)
      rw [e85, o5 243 (by decide), o5 244 (by decide), erow, bst_off o5 kb5 _ (by omega)]
      obtain ⟨q1, q2, q3⟩ := F4 j a b
      refine ⟨q1, q2, fun p a b => ?_⟩
      rw [shr_off o5 kb5 _ (by omega)]
      exact q3 p a b
    · intro j a b
      rw [o5 243 (by decide), o4 243 (by unfold SPA; omega), e45, e44, e43]
      rw [e45, e44, e43] at b
      exact b3 j a b
    · have p9 := P3.1
      rw [e192, n4, hN, c5 _ (by rw [e44, e43, e42, e41]; omega), c4 _ (by rw [e43, e42, e41]; omega), e43, e42, e41]
    · intro j q
      rw [e45] at q
      have := PF4 j q
      unfold PF at this ⊢
      rw [c5 (j + 1) (by omega), c5 j (by omega), o5 249 (by decide), o5 250 (by decide), o5 251 (by decide), o5 252 (by decide)]
      exact this
    · intro j hj aj t t0 t1
      rw [e45] at hj
      rw [o5 251 (by decide)] at aj ⊢
      have p9 := P4.1
      have hx : h4 249 j < 0 ∨ (h4 249 j).toNat < 8 := by
        have := (head_facts (PF4 j (by omega)) aj).2.2.1
        have k9 := K4 j (by omega) (by omega)
        have s9 := S4.1
        omega
      rw [wid_off o5 hx] at t1
      rw [nib_off o5 hx]
      exact n5 j hj aj t t0 t1
  refine x_aload_n 1 (xd DX3_reckon rfl) rfl rfl ?_
  refine x_aload_n 2 (xd DX3_reckon rfl) rfl rfl ?_
  refine x_gr 5 _ LX3_55 (xd DX3_reckon rfl) rfl rfl ⟨by decide, by decide⟩ (by decide) rfl rfl ?_
  refine x_gi 8 2 rfl LX3_59 (xd DX3_reckon rfl) rfl ⟨Or.inr ⟨rfl, by decide⟩, by decide⟩ rfl ?_
  refine x_iconst 9 (xd DX3_reckon rfl) rfl ?_
  refine x_icmp_ne 12 16 (xd DX3_reckon rfl) rfl (by omega) (by omega) rfl (fun c9 => ?_) (fun c9 => ?_)
  · refine x_aload_n 17 (xd DX3_reckon rfl) rfl rfl ?_
    refine x_gr 20 _ LX3_55 (xd DX3_reckon rfl) rfl rfl ⟨by decide, by decide⟩ (by decide) rfl rfl ?_
    refine x_gi 23 2 rfl LX3_59 (xd DX3_reckon rfl) rfl ⟨Or.inr ⟨rfl, by decide⟩, by decide⟩ rfl ?_
    refine x_bipush 25 (xd DX3_reckon rfl) rfl rfl ?_
    refine x_icmp_ne 28 32 (xd DX3_reckon rfl) rfl (by omega) (by omega) rfl (fun c25 => ?_) (fun c25 => ?_)
    · refine x_iconst 33 (xd DX3_reckon rfl) rfl ?_
      first | exact j33 2 (by omega) (by show h 8 2 = 4; omega) | exact j33 3 (by omega) (by show h 8 2 = 8; omega) | exact j33 4 (by omega) (by show h 8 2 = 16; omega)
    · refine x_iconst 29 (xd DX3_reckon rfl) rfl ?_
      refine x_goto 33 (xd DX3_reckon rfl) rfl ?_
      first | exact j33 2 (by omega) (by show h 8 2 = 4; omega) | exact j33 3 (by omega) (by show h 8 2 = 8; omega) | exact j33 4 (by omega) (by show h 8 2 = 16; omega)
  · refine x_iconst 13 (xd DX3_reckon rfl) rfl ?_
    refine x_goto 33 (xd DX3_reckon rfl) rfl ?_
    first | exact j33 2 (by omega) (by show h 8 2 = 4; omega) | exact j33 3 (by omega) (by show h 8 2 = 8; omega) | exact j33 4 (by omega) (by show h 8 2 = 16; omega)
end
section
/-! Layout: readers -/
noncomputable def cntR (p : Nat → Prop) (a : Nat) : Nat → Int
  | 0 => 0
  | d + 1 => cntR p a d + xp (p (a + d))
/-- the first place below N that holds v -/
def FirstAt (f : Int → Int) (N v z : Int) : Prop := (∃ i : Nat, (i : Int) < N ∧ f i = v ∧ (∀ j : Nat, j < i → f j ≠ v) ∧ z = (i : Int)) ∨ ((∀ j : Nat, (j : Int) < N → f j ≠ v) ∧ z = -4)
theorem FirstAt.one {f f' : Int → Int} {N v z z' : Int} (hf : ∀ j : Nat, (j : Int) < N → f j = f' j) (h1 : FirstAt f N v z) (h2 : FirstAt f' N v z') : z = z' := by
  rcases h1 with ⟨i, a1, a2, a3, a4⟩ | ⟨a1, a2⟩ <;> rcases h2 with ⟨j, b1, b2, b3, b4⟩ | ⟨b1, b2⟩
  · have : ¬ i < j := fun q => b3 i q (by rw [← hf i a1]; exact a2)
    have : ¬ j < i := fun q => a3 j q (by rw [hf j b1]; exact b2)
    omega
  · exact absurd (by rw [← hf i a1]; exact a2) (b1 i a1)
  · exact absurd (by rw [hf j b1]; exact b2) (a1 j b1)
  · omega
noncomputable def lAd (h : XH) (k : Nat) (l : Int) : Int := pik (0 ≤ l * (2 ^ k : Nat) ∧ l * (2 ^ k : Nat) < h 4 3) (h 251 (l * (2 ^ k : Nat))) (h 192 13)
set_option maxRecDepth 100000 in
set_option maxHeartbeats 4000000 in
theorem pX3_isSequence {K : XK} {n : Nat} {h : XH} (i m : Int) (hP : PW h) (hi : xrg i) (hm : xrg m) (hr : ∀ j, 0 ≤ j → j < h 4 3 → 0 ≤ h 193 j ∧ h 193 j ≤ 4) : MI K mX3_isSequence 1 n [vr 192, vi i, vi m] h (fun z h' => z = xp ((0 ≤ i ∧ i < h 4 3) ∧ 2 ≤ m ∧ m ≤ h 193 i) ∧ h' = h) := by
  refine xMeth FX3_isSequence (Nat.le_of_ble_eq_true rfl) ?_
  have hP1 := hP.1
  refine x_aload_n 1 (xd DX3_isSequence rfl) rfl rfl ?_
  refine x_gr 4 _ LX3_51 (xd DX3_isSequence rfl) rfl rfl ⟨by decide, by decide⟩ (by decide) rfl rfl ?_
  refine x_iload_n 5 (xd DX3_isSequence rfl) rfl rfl ?_
  refine x_Vi 8 (pX4_has i hi (by omega)) FX4_has VX4_has CX3_104 (xd DX3_isSequence rfl) rfl rfl rfl ⟨by decide, rfl⟩ ⟨by decide, by decide⟩ (by decide) (Nat.le_of_ble_eq_true rfl) (by decide) rfl ?_
  rintro z9 h9 ⟨q1, q2⟩
  rw [q1, q2]
  clear q1 q2 z9 h9
  refine x_ifp_eq 11 30 (xd DX3_isSequence rfl) rfl rfl (fun c8 => ?_) (fun c8 => ?_)
  · refine x_iconst 31 (xd DX3_isSequence rfl) rfl ?_
    refine x_rz (xd DX3_isSequence rfl) rfl (by omega) ?_
    first | exact ⟨xp_t ⟨c8, by omega, by omega⟩, rfl⟩ | exact ⟨xp_f (fun q => by have := q.2; omega), rfl⟩ | exact ⟨xp_f (fun q => c8 q.1), rfl⟩
  · refine x_iload_n 12 (xd DX3_isSequence rfl) rfl rfl ?_
    refine x_iconst 13 (xd DX3_isSequence rfl) rfl ?_
    refine x_icmp_lt 16 30 (xd DX3_isSequence rfl) rfl (by omega) (by omega) rfl (fun c13 => ?_) (fun c13 => ?_)
    · refine x_iconst 31 (xd DX3_isSequence rfl) rfl ?_
      refine x_rz (xd DX3_isSequence rfl) rfl (by omega) ?_
      first | exact ⟨xp_t ⟨c8, by omega, by omega⟩, rfl⟩ | exact ⟨xp_f (fun q => by have := q.2; omega), rfl⟩ | exact ⟨xp_f (fun q => c8 q.1), rfl⟩
    · refine x_iload_n 17 (xd DX3_isSequence rfl) rfl rfl ?_
      refine x_aload_n 18 (xd DX3_isSequence rfl) rfl rfl ?_
      refine x_gr 21 _ LX3_9 (xd DX3_isSequence rfl) rfl rfl ⟨by decide, by decide⟩ (by decide) rfl rfl ?_
      refine x_iload_n 22 (xd DX3_isSequence rfl) rfl rfl ?_
      refine x_iaload 23 (xd DX3_isSequence rfl) rfl ⟨Or.inr ⟨rfl, by decide⟩, by decide⟩ (by decide) (by omega) (by omega) rfl ?_
      refine x_icmp_gt 26 30 (xd DX3_isSequence rfl) rfl (by have := hr i c8.1 c8.2; omega) (by have := hr i c8.1 c8.2; omega) rfl (fun c23 => ?_) (fun c23 => ?_)
      · refine x_iconst 31 (xd DX3_isSequence rfl) rfl ?_
        refine x_rz (xd DX3_isSequence rfl) rfl (by omega) ?_
        first | exact ⟨xp_t ⟨c8, by omega, by omega⟩, rfl⟩ | exact ⟨xp_f (fun q => by have := q.2; omega), rfl⟩ | exact ⟨xp_f (fun q => c8 q.1), rfl⟩
      · refine x_iconst 27 (xd DX3_isSequence rfl) rfl ?_
        refine x_goto 31 (xd DX3_isSequence rfl) rfl ?_
        refine x_rz (xd DX3_isSequence rfl) rfl (by omega) ?_
        first | exact ⟨xp_t ⟨c8, by omega, by omega⟩, rfl⟩ | exact ⟨xp_f (fun q => by have := q.2; omega), rfl⟩ | exact ⟨xp_f (fun q => c8 q.1), rfl⟩

set_option maxRecDepth 100000 in
set_option maxHeartbeats 4000000 in
theorem pX3_firstOf {K : XK} {n : Nat} {h : XH} (l : Int) (k : Nat) (hk : h 192 15 = (k : Int)) (hk2 : k < 32) : MI K mX3_firstOf 0 n [vr 192, vi l] h (fun z h' => z = l * (2 ^ k : Nat) ∧ h' = h) := by
  refine xMeth FX3_firstOf (Nat.le_of_ble_eq_true rfl) ?_
  refine x_iload_n 1 (xd DX3_firstOf rfl) rfl rfl ?_
  refine x_aload_n 2 (xd DX3_firstOf rfl) rfl rfl ?_
  refine x_gi 5 15 rfl LX3_65 (xd DX3_firstOf rfl) rfl ⟨Or.inr ⟨rfl, by decide⟩, by decide⟩ rfl ?_
  rw [hk]
  refine x_ishl 6 (k := k) (by omega) (xd DX3_firstOf rfl) rfl ?_
  refine x_ri (xd DX3_firstOf rfl) rfl ?_
  exact ⟨rfl, rfl⟩

set_option maxRecDepth 100000 in
set_option maxHeartbeats 4000000 in
theorem pX3_lineAddress {K : XK} {n : Nat} {h : XH} (l : Int) (k : Nat) (hP : PW h) (hk : h 192 15 = (k : Int)) (hk2 : k ≤ 4) (hl : 0 ≤ l ∧ l ≤ 1000) : MI K mX3_lineAddress 1 n [vr 192, vi l] h (fun z h' => z = lAd h k l ∧ h' = h) := by
  refine xMeth FX3_lineAddress (Nat.le_of_ble_eq_true rfl) ?_
  have hP1 := hP.1
  have hb : 0 ≤ l * (2 ^ k : Nat) ∧ l * (2 ^ k : Nat) ≤ 100000 := by
    have : k = 0 ∨ k = 1 ∨ k = 2 ∨ k = 3 ∨ k = 4 := by omega
    rcases this with e | e | e | e | e <;> subst e <;> simp <;> omega
  refine x_aload_n 1 (xd DX3_lineAddress rfl) rfl rfl ?_
  refine x_iload_n 2 (xd DX3_lineAddress rfl) rfl rfl ?_
  refine x_Vi 5 (pX3_firstOf l k hk (by omega)) FX3_firstOf VX3_firstOf CX3_175 (xd DX3_lineAddress rfl) rfl rfl rfl ⟨by decide, rfl⟩ ⟨by decide, by decide⟩ (by decide) (Nat.le_of_ble_eq_true rfl) (by decide) rfl ?_
  rintro z9 h9 ⟨q1, q2⟩
  rw [q1, q2]
  clear q1 q2 z9 h9
  refine x_istore_n 6 (L' := [(0, _), (1, _), (2, _)]) (xd DX3_lineAddress rfl) (by decide) rfl rfl rfl ?_
  refine x_aload_n 7 (xd DX3_lineAddress rfl) rfl rfl ?_
  refine x_gr 10 _ LX3_51 (xd DX3_lineAddress rfl) rfl rfl ⟨by decide, by decide⟩ (by decide) rfl rfl ?_
  refine x_iload_n 11 (xd DX3_lineAddress rfl) rfl rfl ?_
  refine x_Vi 14 (pX4_has _ (by omega) (by omega)) FX4_has VX4_has CX3_104 (xd DX3_lineAddress rfl) rfl rfl rfl ⟨by decide, rfl⟩ ⟨by decide, by decide⟩ (by decide) (Nat.le_of_ble_eq_true rfl) (by decide) rfl ?_
  rintro z9 h9 ⟨q1, q2⟩
  rw [q1, q2]
  clear q1 q2 z9 h9
  refine x_ifp_eq 17 26 (xd DX3_lineAddress rfl) rfl rfl (fun c14 => ?_) (fun c14 => ?_)
  · refine x_aload_n 27 (xd DX3_lineAddress rfl) rfl rfl ?_
    refine x_gi 30 13 rfl LX3_142 (xd DX3_lineAddress rfl) rfl ⟨Or.inr ⟨rfl, by decide⟩, by decide⟩ rfl ?_
    refine x_ri (xd DX3_lineAddress rfl) rfl ?_
    first | exact ⟨(pik_t c14 _ _).symm, rfl⟩ | exact ⟨(pik_f c14 _ _).symm, rfl⟩
  · refine x_aload_n 18 (xd DX3_lineAddress rfl) rfl rfl ?_
    refine x_gr 21 _ LX3_42 (xd DX3_lineAddress rfl) rfl rfl ⟨by decide, by decide⟩ (by decide) rfl rfl ?_
    refine x_iload_n 22 (xd DX3_lineAddress rfl) rfl rfl ?_
    refine x_iaload 23 (xd DX3_lineAddress rfl) rfl ⟨Or.inr ⟨rfl, by decide⟩, by decide⟩ (by decide) (by omega) (by omega) rfl ?_
    refine x_goto 30 (xd DX3_lineAddress rfl) rfl ?_
    refine x_ri (xd DX3_lineAddress rfl) rfl ?_
    first | exact ⟨(pik_t c14 _ _).symm, rfl⟩ | exact ⟨(pik_f c14 _ _).symm, rfl⟩

set_option maxRecDepth 100000 in
set_option maxHeartbeats 4000000 in
theorem pX3_lineNibbles {K : XK} {n : Nat} {h : XH} (l : Int) (k : Nat) (hP : PW h) (hk : h 192 15 = (k : Int)) (hk2 : k ≤ 4) (hl : 0 ≤ l ∧ l < 1000) : MI K mX3_lineNibbles 2 n [vr 192, vi l] h (fun z h' => z = lAd h k (l + 1) - lAd h k l ∧ h' = h) := by
  refine xMeth FX3_lineNibbles (Nat.le_of_ble_eq_true rfl) ?_
  refine x_aload_n 1 (xd DX3_lineNibbles rfl) rfl rfl ?_
  refine x_iload_n 2 (xd DX3_lineNibbles rfl) rfl rfl ?_
  refine x_iconst 3 (xd DX3_lineNibbles rfl) rfl ?_
  refine x_iadd 4 (xd DX3_lineNibbles rfl) rfl ?_
  refine x_Vi 7 (pX3_lineAddress (l + 1) k hP hk hk2 (by omega)) FX3_lineAddress VX3_lineAddress CX3_178 (xd DX3_lineNibbles rfl) rfl rfl rfl ⟨by decide, rfl⟩ ⟨by decide, by decide⟩ (by decide) (Nat.le_of_ble_eq_true rfl) (by decide) rfl ?_
  rintro z9 h9 ⟨q1, q2⟩
  rw [q1, q2]
  clear q1 q2 z9 h9
  refine x_aload_n 8 (xd DX3_lineNibbles rfl) rfl rfl ?_
  refine x_iload_n 9 (xd DX3_lineNibbles rfl) rfl rfl ?_
  refine x_Vi 12 (pX3_lineAddress l k hP hk hk2 (by omega)) FX3_lineAddress VX3_lineAddress CX3_178 (xd DX3_lineNibbles rfl) rfl rfl rfl ⟨by decide, rfl⟩ ⟨by decide, by decide⟩ (by decide) (Nat.le_of_ble_eq_true rfl) (by decide) rfl ?_
  rintro z9 h9 ⟨q1, q2⟩
  rw [q1, q2]
  clear q1 q2 z9 h9
  refine x_isub 13 (xd DX3_lineNibbles rfl) rfl ?_
  refine x_ri (xd DX3_lineNibbles rfl) rfl ?_
  exact ⟨rfl, rfl⟩

set_option maxRecDepth 100000 in
set_option maxHeartbeats 4000000 in
theorem pX3_instructionOf {K : XK} {n : Nat} {h : XH} (v : Int) (hP : PW h) (hv : xrg v) (hr : ∀ j, 0 ≤ j → j < h 4 3 → xrg (h 251 j)) : MI K mX3_instructionOf 0 n [vr 192, vi v] h (fun z h' => FirstAt (h 251) (h 4 3) v z ∧ h' = h) := by
  refine xMeth FX3_instructionOf (Nat.le_of_ble_eq_true rfl) ?_
  have hP1 := hP.1
  have loop : ∀ (m : Nat) (xi : Nat), (xi : Int) ≤ h 4 3 → h 4 3 - xi < (m : Int) → (∀ j : Nat, j < xi → h 251 j ≠ v) → WI K mX3_instructionOf 0 n (qI n fun z h' => FirstAt (h 251) (h 4 3) v z ∧ h' = h) 2 [(0, vr 192), (1, vi v), (2, vi (xi : Int))] [] h := by
    intro m
    induction m with
    | zero => intro xi a b; exact absurd b (by omega)
    | succ m ih =>
      intro xi h0 hm hn
      refine x_iload_n 3 (xd DX3_instructionOf rfl) rfl rfl ?_
      refine x_aload_n 4 (xd DX3_instructionOf rfl) rfl rfl ?_
      refine x_gr 7 _ LX3_51 (xd DX3_instructionOf rfl) rfl rfl ⟨by decide, by decide⟩ (by decide) rfl rfl ?_
      refine x_gi 10 3 rfl LX3_68 (xd DX3_instructionOf rfl) rfl ⟨Or.inr ⟨rfl, by decide⟩, by decide⟩ rfl ?_
      refine x_icmp_ge 13 31 (xd DX3_instructionOf rfl) rfl (by omega) (by omega) rfl (fun c10 => ?_) (fun c10 => ?_)
      · refine x_bipush 33 (xd DX3_instructionOf rfl) rfl rfl ?_
        refine x_ri (xd DX3_instructionOf rfl) rfl ?_
        first | exact ⟨Or.inl ⟨xi, by omega, c20, hn, rfl⟩, rfl⟩ | exact ⟨Or.inr ⟨fun j q => hn j (by omega), rfl⟩, rfl⟩
      · refine x_aload_n 14 (xd DX3_instructionOf rfl) rfl rfl ?_
        refine x_gr 17 _ LX3_42 (xd DX3_instructionOf rfl) rfl rfl ⟨by decide, by decide⟩ (by decide) rfl rfl ?_
        refine x_iload_n 18 (xd DX3_instructionOf rfl) rfl rfl ?_
        refine x_iaload 19 (xd DX3_instructionOf rfl) rfl ⟨Or.inr ⟨rfl, by decide⟩, by decide⟩ (by decide) (by omega) (by omega) rfl ?_
        refine x_iload_n 20 (xd DX3_instructionOf rfl) rfl rfl ?_
        refine x_icmp_ne 23 25 (xd DX3_instructionOf rfl) rfl (by first | omega | exact hr _ (by omega) (by omega)) (by first | omega | exact hr _ (by omega) (by omega)) rfl (fun c20 => ?_) (fun c20 => ?_)
        · refine x_iinc 28 (L' := [(0, _), (1, _), (2, _)]) (xd DX3_instructionOf rfl) rfl (by decide) rfl rfl rfl ?_
          refine x_goto 2 (xd DX3_instructionOf rfl) rfl ?_
          exact ih (xi + 1) (by omega) (by omega) (fun j q => by
            by_cases e : j = xi
            · subst e; exact c20
            · exact hn j (by omega))
        · refine x_iload_n 24 (xd DX3_instructionOf rfl) rfl rfl ?_
          refine x_ri (xd DX3_instructionOf rfl) rfl ?_
          first | exact ⟨Or.inl ⟨xi, by omega, c20, hn, rfl⟩, rfl⟩ | exact ⟨Or.inr ⟨fun j q => hn j (by omega), rfl⟩, rfl⟩
  refine x_iconst 1 (xd DX3_instructionOf rfl) rfl ?_
  refine x_istore_n 2 (L' := [(0, _), (1, _), (2, _)]) (xd DX3_instructionOf rfl) (by decide) rfl rfl rfl ?_
  exact loop 100 0 (by omega) (by omega) (fun j q => absurd q (by omega))

set_option maxRecDepth 100000 in
set_option maxHeartbeats 4000000 in
theorem pX3_references {K : XK} {n : Nat} {h : XH} (a b : Nat) (hP : PW h) (ha : a ≤ min b (h 4 3).toNat ∨ min b (h 4 3).toNat ≤ a) (hab : a < 1000 ∧ b < 1000) (hr : ∀ j, 0 ≤ j → j < h 4 3 → xrg (h 250 j)) : MI K mX3_references 0 n [vr 192, vi (a : Int), vi (b : Int)] h (fun z h' => z = cntR (fun j => h 250 j = 0) a ((min b (h 4 3).toNat) - a) ∧ h' = h) := by
  refine xMeth FX3_references (Nat.le_of_ble_eq_true rfl) ?_
  have hP1 := hP.1
  have loop : ∀ (m : Nat) (xi : Nat) (xz : Int), a ≤ xi → (xi ≤ b ∧ xi ≤ (h 4 3).toNat ∨ xi = a) → 1000 - xi < m → xz = cntR (fun j => h 250 j = 0) a (xi - a) → WI K mX3_references 0 n (qI n fun z h' => z = cntR (fun j => h 250 j = 0) a ((min b (h 4 3).toNat) - a) ∧ h' = h) 5 [(0, vr 192), (1, vi (a : Int)), (2, vi (b : Int)), (3, vi xz), (4, vi (xi : Int))] [] h := by
    intro m
    induction m with
    | zero => intro xi xz a1 a2 b1; exact absurd b1 (by omega)
    | succ m ih =>
      intro xi xz h0 h1 hm hz
      refine x_iload 7 (xd DX3_references rfl) rfl rfl ?_
      refine x_iload_n 8 (xd DX3_references rfl) rfl rfl ?_
      refine x_icmp_ge 11 42 (xd DX3_references rfl) rfl (by omega) (by omega) rfl (fun c8 => ?_) (fun c8 => ?_)
      · refine x_iload_n 43 (xd DX3_references rfl) rfl rfl ?_
        refine x_ri (xd DX3_references rfl) rfl ?_
        refine ⟨?_, rfl⟩
        rw [hz]
        congr 1
        omega
      · refine x_iload 13 (xd DX3_references rfl) rfl rfl ?_
        refine x_aload_n 14 (xd DX3_references rfl) rfl rfl ?_
        refine x_gr 17 _ LX3_51 (xd DX3_references rfl) rfl rfl ⟨by decide, by decide⟩ (by decide) rfl rfl ?_
        refine x_gi 20 3 rfl LX3_68 (xd DX3_references rfl) rfl ⟨Or.inr ⟨rfl, by decide⟩, by decide⟩ rfl ?_
        refine x_icmp_ge 23 42 (xd DX3_references rfl) rfl (by omega) (by omega) rfl (fun c20 => ?_) (fun c20 => ?_)
        · refine x_iload_n 43 (xd DX3_references rfl) rfl rfl ?_
          refine x_ri (xd DX3_references rfl) rfl ?_
          refine ⟨?_, rfl⟩
          rw [hz]
          congr 1
          omega
        · refine x_aload_n 24 (xd DX3_references rfl) rfl rfl ?_
          refine x_gr 27 _ LX3_39 (xd DX3_references rfl) rfl rfl ⟨by decide, by decide⟩ (by decide) rfl rfl ?_
          refine x_iload 29 (xd DX3_references rfl) rfl rfl ?_
          refine x_iaload 30 (xd DX3_references rfl) rfl ⟨Or.inr ⟨rfl, by decide⟩, by decide⟩ (by decide) (by omega) (by omega) rfl ?_
          refine x_if_ne 33 36 (xd DX3_references rfl) rfl (by have := hr (xi : Int) (by omega) (by omega); omega) rfl (fun c30 => ?_) (fun c30 => ?_)
          · refine x_iinc 39 (L' := [(0, _), (1, _), (2, _), (3, _), (4, _)]) (xd DX3_references rfl) rfl (by decide) rfl rfl rfl ?_
            refine x_goto 5 (xd DX3_references rfl) rfl ?_
            first
              | exact ih (xi + 1) _ (by omega) (by omega) (by omega) (by rw [show xi + 1 - a = (xi - a) + 1 by omega]; unfold cntR; rw [show a + (xi - a) = xi by omega, ← xp_t c30, hz])
              | exact ih (xi + 1) _ (by omega) (by omega) (by omega) (by rw [show xi + 1 - a = (xi - a) + 1 by omega]; unfold cntR; rw [show a + (xi - a) = xi by omega, ← xp_f c30, hz, Int.add_zero])
          · refine x_iinc 36 (L' := [(0, _), (1, _), (2, _), (3, _), (4, _)]) (xd DX3_references rfl) rfl (by decide) rfl rfl rfl ?_
            refine x_iinc 39 (L' := [(0, _), (1, _), (2, _), (3, _), (4, _)]) (xd DX3_references rfl) rfl (by decide) rfl rfl rfl ?_
            refine x_goto 5 (xd DX3_references rfl) rfl ?_
            first
              | exact ih (xi + 1) _ (by omega) (by omega) (by omega) (by rw [show xi + 1 - a = (xi - a) + 1 by omega]; unfold cntR; rw [show a + (xi - a) = xi by omega, ← xp_t c30, hz])
              | exact ih (xi + 1) _ (by omega) (by omega) (by omega) (by rw [show xi + 1 - a = (xi - a) + 1 by omega]; unfold cntR; rw [show a + (xi - a) = xi by omega, ← xp_f c30, hz, Int.add_zero])
  refine x_iconst 1 (xd DX3_references rfl) rfl ?_
  refine x_istore_n 2 (L' := [(0, _), (1, _), (2, _), (3, _)]) (xd DX3_references rfl) (by decide) rfl rfl rfl ?_
  refine x_iload_n 3 (xd DX3_references rfl) rfl rfl ?_
  refine x_istore 5 (L' := [(0, _), (1, _), (2, _), (3, _), (4, _)]) (xd DX3_references rfl) (by decide) rfl rfl rfl ?_
  exact loop 100000 a 0 (by omega) (by omega) (by omega) (by rw [Nat.sub_self]; rfl)

set_option maxRecDepth 100000 in
set_option maxHeartbeats 4000000 in
theorem pX3_referencesTo {K : XK} {n : Nat} {h : XH} (v : Int) (hP : PW h) (hv : xrg v) (hr : ∀ j, 0 ≤ j → j < h 4 3 → xrg (h 249 j) ∧ xrg (h 250 j)) : MI K mX3_referencesTo 0 n [vr 192, vi v] h (fun z h' => z = cntR (fun j => h 249 j = v ∧ h 250 j = 0) 0 (h 4 3).toNat ∧ h' = h) := by
  refine xMeth FX3_referencesTo (Nat.le_of_ble_eq_true rfl) ?_
  have hP1 := hP.1
  have loop : ∀ (m : Nat) (xi : Nat) (xz : Int), (xi : Int) ≤ h 4 3 → h 4 3 - xi < (m : Int) → xz = cntR (fun j => h 249 j = v ∧ h 250 j = 0) 0 xi → WI K mX3_referencesTo 0 n (qI n fun z h' => z = cntR (fun j => h 249 j = v ∧ h 250 j = 0) 0 (h 4 3).toNat ∧ h' = h) 4 [(0, vr 192), (1, vi v), (2, vi xz), (3, vi (xi : Int))] [] h := by
    intro m
    induction m with
    | zero => intro xi xz a b; exact absurd b (by omega)
    | succ m ih =>
      intro xi xz h0 hm hz
      refine x_iload_n 5 (xd DX3_referencesTo rfl) rfl rfl ?_
      refine x_aload_n 6 (xd DX3_referencesTo rfl) rfl rfl ?_
      refine x_gr 9 _ LX3_51 (xd DX3_referencesTo rfl) rfl rfl ⟨by decide, by decide⟩ (by decide) rfl rfl ?_
      refine x_gi 12 3 rfl LX3_68 (xd DX3_referencesTo rfl) rfl ⟨Or.inr ⟨rfl, by decide⟩, by decide⟩ rfl ?_
      refine x_icmp_ge 15 43 (xd DX3_referencesTo rfl) rfl (by omega) (by omega) rfl (fun c12 => ?_) (fun c12 => ?_)
      · refine x_iload_n 44 (xd DX3_referencesTo rfl) rfl rfl ?_
        refine x_ri (xd DX3_referencesTo rfl) rfl ?_
        refine ⟨?_, rfl⟩
        rw [hz, show (h 4 3).toNat = xi by omega]
      · refine x_aload_n 16 (xd DX3_referencesTo rfl) rfl rfl ?_
        refine x_gr 19 _ LX3_36 (xd DX3_referencesTo rfl) rfl rfl ⟨by decide, by decide⟩ (by decide) rfl rfl ?_
        refine x_iload_n 20 (xd DX3_referencesTo rfl) rfl rfl ?_
        refine x_iaload 21 (xd DX3_referencesTo rfl) rfl ⟨Or.inr ⟨rfl, by decide⟩, by decide⟩ (by decide) (by omega) (by omega) rfl ?_
        refine x_iload_n 22 (xd DX3_referencesTo rfl) rfl rfl ?_
        refine x_icmp_ne 25 37 (xd DX3_referencesTo rfl) rfl (by first | omega | (have := hr (xi : Int) (by omega) (by omega); omega)) (by first | omega | (have := hr (xi : Int) (by omega) (by omega); omega)) rfl (fun c22 => ?_) (fun c22 => ?_)
        · refine x_iinc 40 (L' := [(0, _), (1, _), (2, _), (3, _)]) (xd DX3_referencesTo rfl) rfl (by decide) rfl rfl rfl ?_
          refine x_goto 4 (xd DX3_referencesTo rfl) rfl ?_
          first
            | exact ih (xi + 1) _ (by omega) (by omega) (by unfold cntR; rw [Nat.zero_add, ← xp_t (p := h 249 xi = v ∧ h 250 xi = 0) ⟨c22, c31⟩, hz])
            | exact ih (xi + 1) _ (by omega) (by omega) (by unfold cntR; rw [Nat.zero_add, ← xp_f (p := h 249 xi = v ∧ h 250 xi = 0) (fun q => c31 q.2), hz, Int.add_zero])
            | exact ih (xi + 1) _ (by omega) (by omega) (by unfold cntR; rw [Nat.zero_add, ← xp_f (p := h 249 xi = v ∧ h 250 xi = 0) (fun q => c22 q.1), hz, Int.add_zero])
        · refine x_aload_n 26 (xd DX3_referencesTo rfl) rfl rfl ?_
          refine x_gr 29 _ LX3_39 (xd DX3_referencesTo rfl) rfl rfl ⟨by decide, by decide⟩ (by decide) rfl rfl ?_
          refine x_iload_n 30 (xd DX3_referencesTo rfl) rfl rfl ?_
          refine x_iaload 31 (xd DX3_referencesTo rfl) rfl ⟨Or.inr ⟨rfl, by decide⟩, by decide⟩ (by decide) (by omega) (by omega) rfl ?_
          refine x_if_ne 34 37 (xd DX3_referencesTo rfl) rfl (by have := hr (xi : Int) (by omega) (by omega); omega) rfl (fun c31 => ?_) (fun c31 => ?_)
          · refine x_iinc 40 (L' := [(0, _), (1, _), (2, _), (3, _)]) (xd DX3_referencesTo rfl) rfl (by decide) rfl rfl rfl ?_
            refine x_goto 4 (xd DX3_referencesTo rfl) rfl ?_
            first
              | exact ih (xi + 1) _ (by omega) (by omega) (by unfold cntR; rw [Nat.zero_add, ← xp_t (p := h 249 xi = v ∧ h 250 xi = 0) ⟨c22, c31⟩, hz])
              | exact ih (xi + 1) _ (by omega) (by omega) (by unfold cntR; rw [Nat.zero_add, ← xp_f (p := h 249 xi = v ∧ h 250 xi = 0) (fun q => c31 q.2), hz, Int.add_zero])
              | exact ih (xi + 1) _ (by omega) (by omega) (by unfold cntR; rw [Nat.zero_add, ← xp_f (p := h 249 xi = v ∧ h 250 xi = 0) (fun q => c22 q.1), hz, Int.add_zero])
          · refine x_iinc 37 (L' := [(0, _), (1, _), (2, _), (3, _)]) (xd DX3_referencesTo rfl) rfl (by decide) rfl rfl rfl ?_
            refine x_iinc 40 (L' := [(0, _), (1, _), (2, _), (3, _)]) (xd DX3_referencesTo rfl) rfl (by decide) rfl rfl rfl ?_
            refine x_goto 4 (xd DX3_referencesTo rfl) rfl ?_
            first
              | exact ih (xi + 1) _ (by omega) (by omega) (by unfold cntR; rw [Nat.zero_add, ← xp_t (p := h 249 xi = v ∧ h 250 xi = 0) ⟨c22, c31⟩, hz])
              | exact ih (xi + 1) _ (by omega) (by omega) (by unfold cntR; rw [Nat.zero_add, ← xp_f (p := h 249 xi = v ∧ h 250 xi = 0) (fun q => c31 q.2), hz, Int.add_zero])
              | exact ih (xi + 1) _ (by omega) (by omega) (by unfold cntR; rw [Nat.zero_add, ← xp_f (p := h 249 xi = v ∧ h 250 xi = 0) (fun q => c22 q.1), hz, Int.add_zero])
  refine x_iconst 1 (xd DX3_referencesTo rfl) rfl ?_
  refine x_istore_n 2 (L' := [(0, _), (1, _), (2, _)]) (xd DX3_referencesTo rfl) (by decide) rfl rfl rfl ?_
  refine x_iconst 3 (xd DX3_referencesTo rfl) rfl ?_
  refine x_istore_n 4 (L' := [(0, _), (1, _), (2, _), (3, _)]) (xd DX3_referencesTo rfl) (by decide) rfl rfl rfl ?_
  exact loop 100 0 0 (by omega) (by omega) rfl

set_option maxRecDepth 100000 in
set_option maxHeartbeats 4000000 in
theorem pX3_matchesOf {K : XK} {n : Nat} {h : XH} (c : Nat) (hE : xEnt c) (hw : EW h c) (hP : PW h) (hr : ∀ j, 0 ≤ j → j < h 4 3 → 0 ≤ h 193 j ∧ h 193 j ≤ 4) : MI K mX3_matchesOf 2 n [vr 192, vr c] h (fun z h' => z = cntR (fun j => Mt h c j) 0 (h 4 3).toNat ∧ h' = h) := by
  refine xMeth FX3_matchesOf (Nat.le_of_ble_eq_true rfl) ?_
  have hP1 := hP.1
  have loop : ∀ (m : Nat) (xi : Nat) (xz : Int), (xi : Int) ≤ h 4 3 → h 4 3 - xi < (m : Int) → xz = cntR (fun j => Mt h c j) 0 xi → WI K mX3_matchesOf 2 n (qI n fun z h' => z = cntR (fun j => Mt h c j) 0 (h 4 3).toNat ∧ h' = h) 4 [(0, vr 192), (1, vr c), (2, vi xz), (3, vi (xi : Int))] [] h := by
    intro m
    induction m with
    | zero => intro xi xz a b; exact absurd b (by omega)
    | succ m ih =>
      intro xi xz h0 hm hz
      refine x_iload_n 5 (xd DX3_matchesOf rfl) rfl rfl ?_
      refine x_aload_n 6 (xd DX3_matchesOf rfl) rfl rfl ?_
      refine x_gr 9 _ LX3_51 (xd DX3_matchesOf rfl) rfl rfl ⟨by decide, by decide⟩ (by decide) rfl rfl ?_
      refine x_gi 12 3 rfl LX3_68 (xd DX3_matchesOf rfl) rfl ⟨Or.inr ⟨rfl, by decide⟩, by decide⟩ rfl ?_
      refine x_icmp_ge 15 33 (xd DX3_matchesOf rfl) rfl (by omega) (by omega) rfl (fun c12 => ?_) (fun c12 => ?_)
      · refine x_iload_n 34 (xd DX3_matchesOf rfl) rfl rfl ?_
        refine x_ri (xd DX3_matchesOf rfl) rfl ?_
        refine ⟨?_, rfl⟩
        rw [hz, show (h 4 3).toNat = xi by omega]
      · refine x_aload_n 16 (xd DX3_matchesOf rfl) rfl rfl ?_
        refine x_aload_n 17 (xd DX3_matchesOf rfl) rfl rfl ?_
        refine x_iload_n 18 (xd DX3_matchesOf rfl) rfl rfl ?_
        refine x_Vi 21 (pX3_matches c (xi : Int) hE hw hP (by omega) (by have := hr (xi : Int) (by omega) (by omega); omega)) FX3_matches VX3_matches CX3_129 (xd DX3_matchesOf rfl) rfl rfl rfl ⟨by decide, rfl⟩ ⟨by decide, by decide⟩ (by decide) (Nat.le_of_ble_eq_true rfl) (by decide) rfl ?_
        rintro z9 h9 ⟨q1, q2⟩
        rw [q1, q2]
        clear q1 q2 z9 h9
        refine x_ifp_eq 24 27 (xd DX3_matchesOf rfl) rfl rfl (fun c21 => ?_) (fun c21 => ?_)
        · refine x_iinc 30 (L' := [(0, _), (1, _), (2, _), (3, _)]) (xd DX3_matchesOf rfl) rfl (by decide) rfl rfl rfl ?_
          refine x_goto 4 (xd DX3_matchesOf rfl) rfl ?_
          first
            | exact ih (xi + 1) _ (by omega) (by omega) (by unfold cntR; rw [Nat.zero_add, ← xp_t c21, hz])
            | exact ih (xi + 1) _ (by omega) (by omega) (by unfold cntR; rw [Nat.zero_add, ← xp_f c21, hz, Int.add_zero])
        · refine x_iinc 27 (L' := [(0, _), (1, _), (2, _), (3, _)]) (xd DX3_matchesOf rfl) rfl (by decide) rfl rfl rfl ?_
          refine x_iinc 30 (L' := [(0, _), (1, _), (2, _), (3, _)]) (xd DX3_matchesOf rfl) rfl (by decide) rfl rfl rfl ?_
          refine x_goto 4 (xd DX3_matchesOf rfl) rfl ?_
          first
            | exact ih (xi + 1) _ (by omega) (by omega) (by unfold cntR; rw [Nat.zero_add, ← xp_t c21, hz])
            | exact ih (xi + 1) _ (by omega) (by omega) (by unfold cntR; rw [Nat.zero_add, ← xp_f c21, hz, Int.add_zero])
  refine x_iconst 1 (xd DX3_matchesOf rfl) rfl ?_
  refine x_istore_n 2 (L' := [(0, _), (1, _), (2, _)]) (xd DX3_matchesOf rfl) (by decide) rfl rfl rfl ?_
  refine x_iconst 3 (xd DX3_matchesOf rfl) rfl ?_
  refine x_istore_n 4 (L' := [(0, _), (1, _), (2, _), (3, _)]) (xd DX3_matchesOf rfl) (by decide) rfl rfl rfl ?_
  exact loop 100 0 0 (by omega) (by omega) rfl
end
section
/-! Entry and Setup -/
def S3 (c x : Nat) : Prop := x = c ∨ x = c + 1 ∨ x = c + 2
/-- the entry at c in g is the one at d in h -/
def EEq (g : XH) (c : Nat) (h : XH) (d : Nat) : Prop := g c 2 = h d 2 ∧ g c 3 = h d 3 ∧ ∀ j, 0 ≤ j → j < 4 → g (c + 1) j = h (d + 1) j ∧ g (c + 2) j = h (d + 2) j
theorem EEq.tr {a b c : XH} {x y z : Nat} (h1 : EEq a x b y) (h2 : EEq b y c z) : EEq a x c z := ⟨h1.1.trans h2.1, h1.2.1.trans h2.2.1, fun j q r => ⟨(h1.2.2 j q r).1.trans (h2.2.2 j q r).1, (h1.2.2 j q r).2.trans (h2.2.2 j q r).2⟩⟩
theorem EEq.off {S : Nat → Prop} {h xg : XH} {c : Nat} (hO : Off S h xg) (h0 : ¬ S c) (h1 : ¬ S (c + 1)) (h2 : ¬ S (c + 2)) : EEq xg c h c := by
  unfold EEq
  rw [hO c h0, hO (c + 1) h1, hO (c + 2) h2]
  exact ⟨rfl, rfl, fun _ _ _ => ⟨rfl, rfl⟩⟩
theorem EEq.ew {g h : XH} {c d : Nat} (he : EEq g c h d) (hw : EW h d) : EW g c := by
  obtain ⟨a, b, e⟩ := he
  obtain ⟨w1, w2, w3⟩ := hw
  unfold EW
  rw [a, b]
  exact ⟨w1, w2, fun j q r => by rw [(e j q (by omega)).1, (e j q (by omega)).2]; exact w3 j q r⟩
/-- the entry at c is the sequence of m instructions from i on with the hole z -/
def Took (g : XH) (c : Nat) (h : XH) (i m z : Int) : Prop := g c 2 = m ∧ g c 3 = (if z < 0 then -4 else z) ∧ ∀ j, 0 ≤ j → j < m → g (c + 1) j = h 5 (i + j) ∧ g (c + 2) j = h 6 (i + j)
set_option maxRecDepth 100000 in
set_option maxHeartbeats 4000000 in
theorem pX1_take {K : XK} {n : Nat} {h : XH} (c : Nat) (i m z : Int) (hE : xEnt c) (hc : 9 < c) (hi : 0 ≤ i) (hm : 2 ≤ m ∧ m ≤ 4) (him : i + m ≤ 48) (hz : xrg z) : MV K mX1_take 0 n [vr c, vr 4, vi i, vi m, vi z] h (fun h' => Off (S3 c) h h' ∧ Took h' c h i m z) := by
  refine xMeth FX1_take (Nat.le_of_ble_eq_true rfl) ?_
  have e8 := hE.2.2.2.2.2.2.2
  have loop : ∀ (m1 : Nat) (xk : Nat) (xg : XH), (xk : Int) ≤ m → m - xk < (m1 : Int) → Off (S3 c) h xg → xg c 2 = m → xg c 3 = (if z < 0 then -4 else z) → (∀ j, 0 ≤ j → j < (xk : Int) → xg (c + 1) j = h 5 (i + j) ∧ xg (c + 2) j = h 6 (i + j)) → WI K mX1_take 0 n (qV n fun h' => Off (S3 c) h h' ∧ Took h' c h i m z) 24 [(0, vr c), (1, vr 4), (2, vi i), (3, vi m), (4, vi z), (5, vi (xk : Int))] [] xg := by
    intro m1
    induction m1 with
    | zero => intro xk xg a b; exact absurd b (by omega)
    | succ m1 ih =>
      intro xk xg h0 hm1 hO e2 e3 hk
      refine x_iload 26 (xd DX1_take rfl) rfl rfl ?_
      refine x_iload_n 27 (xd DX1_take rfl) rfl rfl ?_
      refine x_icmp_ge 30 68 (xd DX1_take rfl) rfl (by omega) (by omega) rfl (fun c27 => ?_) (fun c27 => ?_)
      · refine x_rv (xd DX1_take rfl) rfl ?_
        exact ⟨hO, e2, e3, fun j a b => hk j a (by omega)⟩
      · refine x_aload_n 31 (xd DX1_take rfl) rfl rfl ?_
        refine x_gr 34 (c + 1) LX1_9 (xd DX1_take rfl) hE.1 hE.2.2.2.1 ⟨by show c < 259; omega, by omega⟩ (by omega) rfl rfl ?_
        refine x_iload 36 (xd DX1_take rfl) rfl rfl ?_
        refine x_aload_n 37 (xd DX1_take rfl) rfl rfl ?_
        refine x_gr 40 _ LX1_25 (xd DX1_take rfl) rfl rfl ⟨by decide, by decide⟩ (by decide) rfl rfl ?_
        refine x_iload_n 41 (xd DX1_take rfl) rfl rfl ?_
        refine x_iload 43 (xd DX1_take rfl) rfl rfl ?_
        refine x_iadd 44 (xd DX1_take rfl) rfl ?_
        refine x_iaload 45 (xd DX1_take rfl) rfl ⟨Or.inr ⟨rfl, by decide⟩, by decide⟩ (by decide) (by omega) (by omega) rfl ?_
        refine x_iastore 46 (xd DX1_take rfl) hE.2.1 ⟨Or.inr ⟨rfl, by show c + 1 < 259; omega⟩, by omega⟩ (by decide) (by omega) (by omega) rfl ?_
        refine x_aload_n 47 (xd DX1_take rfl) rfl rfl ?_
        refine x_gr 50 (c + 2) LX1_15 (xd DX1_take rfl) hE.1 hE.2.2.2.2.1 ⟨by show c < 259; omega, by omega⟩ (by omega) rfl rfl ?_
        refine x_iload 52 (xd DX1_take rfl) rfl rfl ?_
        refine x_aload_n 53 (xd DX1_take rfl) rfl rfl ?_
        refine x_gr 56 _ LX1_28 (xd DX1_take rfl) rfl rfl ⟨by decide, by decide⟩ (by decide) rfl rfl ?_
        refine x_iload_n 57 (xd DX1_take rfl) rfl rfl ?_
        refine x_iload 59 (xd DX1_take rfl) rfl rfl ?_
        refine x_iadd 60 (xd DX1_take rfl) rfl ?_
        refine x_iaload 61 (xd DX1_take rfl) rfl ⟨Or.inr ⟨rfl, by decide⟩, by decide⟩ (by decide) (by omega) (by omega) rfl ?_
        refine x_iastore 62 (xd DX1_take rfl) hE.2.2.1 ⟨Or.inr ⟨rfl, by show c + 2 < 259; omega⟩, by omega⟩ (by decide) (by omega) (by omega) rfl ?_
        refine x_iinc 65 (L' := [(0, _), (1, _), (2, _), (3, _), (4, _), (5, _)]) (xd DX1_take rfl) rfl (by decide) rfl rfl rfl ?_
        refine x_goto 24 (xd DX1_take rfl) rfl ?_
        have e5 : xg 5 = h 5 := hO 5 (by unfold S3; omega)
        have e6 : xg 6 = h 6 := hO 6 (by unfold S3; omega)
        refine ih (xk + 1) _ (by omega) (by omega) ((hO.tr (Off.set (by unfold S3; omega))).tr (Off.set (by unfold S3; omega))) (by rw [hset_c (by omega), hset_c (by omega)]; exact e2) (by rw [hset_c (by omega), hset_c (by omega)]; exact e3) (fun j a b => ?_)
        rw [hset_c (d := 6) (by omega), e5, e6]
        by_cases q : j = (xk : Int)
        · subst q
          rw [hset_c (by omega), hset_s, hset_s]
          exact ⟨rfl, rfl⟩
        · rw [hset_c (by omega), hset_i q, hset_i q, hset_c (by omega)]
          exact hk j a (by omega)
  refine x_aload_n 1 (xd DX1_take rfl) rfl rfl ?_
  refine x_iload_n 2 (xd DX1_take rfl) rfl rfl ?_
  refine x_pi 5 2 rfl LX1_18 (xd DX1_take rfl) hE.1 hE.2.2.2.2.2.1 ⟨Or.inr ⟨rfl, by show c < 259; omega⟩, by omega⟩ rfl ?_
  refine x_aload_n 6 (xd DX1_take rfl) rfl rfl ?_
  refine x_iload 8 (xd DX1_take rfl) rfl rfl ?_
  refine x_if_ge 11 16 (xd DX1_take rfl) rfl (by omega) rfl (fun c8 => ?_) (fun c8 => ?_)
  · refine x_iload 18 (xd DX1_take rfl) rfl rfl ?_
    refine x_pi 21 3 rfl LX1_22 (xd DX1_take rfl) hE.1 hE.2.2.2.2.2.2.1 ⟨Or.inr ⟨rfl, by show c < 259; omega⟩, by omega⟩ rfl ?_
    refine x_iconst 22 (xd DX1_take rfl) rfl ?_
    refine x_istore 24 (L' := [(0, _), (1, _), (2, _), (3, _), (4, _), (5, _)]) (xd DX1_take rfl) (by decide) rfl rfl rfl ?_
    first
      | exact loop 100 0 _ (by omega) (by omega) ((Off.set (by unfold S3; omega)).tr (Off.set (by unfold S3; omega))) (by rw [hset_i (by decide), hset_s]) (by rw [hset_s, if_pos (by omega)]) (fun j a b => absurd b (by omega))
      | exact loop 100 0 _ (by omega) (by omega) ((Off.set (by unfold S3; omega)).tr (Off.set (by unfold S3; omega))) (by rw [hset_i (by decide), hset_s]) (by rw [hset_s, if_neg (by omega)]) (fun j a b => absurd b (by omega))
  · refine x_bipush 13 (xd DX1_take rfl) rfl rfl ?_
    refine x_goto 18 (xd DX1_take rfl) rfl ?_
    refine x_pi 21 3 rfl LX1_22 (xd DX1_take rfl) hE.1 hE.2.2.2.2.2.2.1 ⟨Or.inr ⟨rfl, by show c < 259; omega⟩, by omega⟩ rfl ?_
    refine x_iconst 22 (xd DX1_take rfl) rfl ?_
    refine x_istore 24 (L' := [(0, _), (1, _), (2, _), (3, _), (4, _), (5, _)]) (xd DX1_take rfl) (by decide) rfl rfl rfl ?_
    first
      | exact loop 100 0 _ (by omega) (by omega) ((Off.set (by unfold S3; omega)).tr (Off.set (by unfold S3; omega))) (by rw [hset_i (by decide), hset_s]) (by rw [hset_s, if_pos (by omega)]) (fun j a b => absurd b (by omega))
      | exact loop 100 0 _ (by omega) (by omega) ((Off.set (by unfold S3; omega)).tr (Off.set (by unfold S3; omega))) (by rw [hset_i (by decide), hset_s]) (by rw [hset_s, if_neg (by omega)]) (fun j a b => absurd b (by omega))

set_option maxRecDepth 100000 in
set_option maxHeartbeats 4000000 in
theorem pX1_copy {K : XK} {n : Nat} {h : XH} (c d : Nat) (hE : xEnt c) (hD : xEnt d) (hcd : c + 2 < d ∨ d + 2 < c) : MV K mX1_copy 0 n [vr c, vr d] h (fun h' => Off (S3 c) h h' ∧ EEq h' c h d) := by
  refine xMeth FX1_copy (Nat.le_of_ble_eq_true rfl) ?_
  have e8 := hE.2.2.2.2.2.2.2
  have d8 := hD.2.2.2.2.2.2.2
  have loop : ∀ (m1 : Nat) (xk : Nat) (xg : XH), (xk : Int) ≤ 4 → 4 - xk < (m1 : Int) → Off (S3 c) h xg → xg c 2 = h d 2 → xg c 3 = h d 3 → (∀ j, 0 ≤ j → j < (xk : Int) → xg (c + 1) j = h (d + 1) j ∧ xg (c + 2) j = h (d + 2) j) → WI K mX1_copy 0 n (qV n fun h' => Off (S3 c) h h' ∧ EEq h' c h d) 18 [(0, vr c), (1, vr d), (2, vi (xk : Int))] [] xg := by
    intro m1
    induction m1 with
    | zero => intro xk xg a b; exact absurd b (by omega)
    | succ m1 ih =>
      intro xk xg h0 hm1 hO e2 e3 hk
      refine x_iload_n 19 (xd DX1_copy rfl) rfl rfl ?_
      refine x_iconst 20 (xd DX1_copy rfl) rfl ?_
      refine x_icmp_ge 23 53 (xd DX1_copy rfl) rfl (by omega) (by omega) rfl (fun c20 => ?_) (fun c20 => ?_)
      · refine x_rv (xd DX1_copy rfl) rfl ?_
        exact ⟨hO, e2, e3, fun j a b => hk j a (by omega)⟩
      · refine x_aload_n 24 (xd DX1_copy rfl) rfl rfl ?_
        refine x_gr 27 (c + 1) LX1_9 (xd DX1_copy rfl) hE.1 hE.2.2.2.1 ⟨by show c < 259; omega, by omega⟩ (by omega) rfl rfl ?_
        refine x_iload_n 28 (xd DX1_copy rfl) rfl rfl ?_
        refine x_aload_n 29 (xd DX1_copy rfl) rfl rfl ?_
        refine x_gr 32 (d + 1) LX1_9 (xd DX1_copy rfl) hD.1 hD.2.2.2.1 ⟨by show d < 259; omega, by omega⟩ (by omega) rfl rfl ?_
        refine x_iload_n 33 (xd DX1_copy rfl) rfl rfl ?_
        refine x_iaload 34 (xd DX1_copy rfl) hD.2.1 ⟨Or.inr ⟨rfl, by show d + 1 < 259; omega⟩, by omega⟩ (by decide) (by omega) (by omega) rfl ?_
        refine x_iastore 35 (xd DX1_copy rfl) hE.2.1 ⟨Or.inr ⟨rfl, by show c + 1 < 259; omega⟩, by omega⟩ (by decide) (by omega) (by omega) rfl ?_
        refine x_aload_n 36 (xd DX1_copy rfl) rfl rfl ?_
        refine x_gr 39 (c + 2) LX1_15 (xd DX1_copy rfl) hE.1 hE.2.2.2.2.1 ⟨by show c < 259; omega, by omega⟩ (by omega) rfl rfl ?_
        refine x_iload_n 40 (xd DX1_copy rfl) rfl rfl ?_
        refine x_aload_n 41 (xd DX1_copy rfl) rfl rfl ?_
        refine x_gr 44 (d + 2) LX1_15 (xd DX1_copy rfl) hD.1 hD.2.2.2.2.1 ⟨by show d < 259; omega, by omega⟩ (by omega) rfl rfl ?_
        refine x_iload_n 45 (xd DX1_copy rfl) rfl rfl ?_
        refine x_iaload 46 (xd DX1_copy rfl) hD.2.2.1 ⟨Or.inr ⟨rfl, by show d + 2 < 259; omega⟩, by omega⟩ (by decide) (by omega) (by omega) rfl ?_
        refine x_iastore 47 (xd DX1_copy rfl) hE.2.2.1 ⟨Or.inr ⟨rfl, by show c + 2 < 259; omega⟩, by omega⟩ (by decide) (by omega) (by omega) rfl ?_
        refine x_iinc 50 (L' := [(0, _), (1, _), (2, _)]) (xd DX1_copy rfl) rfl (by decide) rfl rfl rfl ?_
        refine x_goto 18 (xd DX1_copy rfl) rfl ?_
        have e5 : xg (d + 1) = h (d + 1) := hO _ (by unfold S3; omega)
        have e6 : xg (d + 2) = h (d + 2) := hO _ (by unfold S3; omega)
        refine ih (xk + 1) _ (by omega) (by omega) ((hO.tr (Off.set (by unfold S3; omega))).tr (Off.set (by unfold S3; omega))) (by rw [hset_c (by omega), hset_c (by omega)]; exact e2) (by rw [hset_c (by omega), hset_c (by omega)]; exact e3) (fun j a b => ?_)
        rw [hset_c (d := d + 2) (by omega), e5, e6]
        by_cases q : j = (xk : Int)
        · subst q
          rw [hset_c (by omega), hset_s, hset_s]
          exact ⟨rfl, rfl⟩
        · rw [hset_c (by omega), hset_i q, hset_i q, hset_c (by omega)]
          exact hk j a (by omega)
  refine x_aload_n 1 (xd DX1_copy rfl) rfl rfl ?_
  refine x_aload_n 2 (xd DX1_copy rfl) rfl rfl ?_
  refine x_gi 5 2 rfl LX1_18 (xd DX1_copy rfl) hD.1 ⟨Or.inr ⟨rfl, by show d < 259; omega⟩, by omega⟩ rfl ?_
  refine x_pi 8 2 rfl LX1_18 (xd DX1_copy rfl) hE.1 hE.2.2.2.2.2.1 ⟨Or.inr ⟨rfl, by show c < 259; omega⟩, by omega⟩ rfl ?_
  refine x_aload_n 9 (xd DX1_copy rfl) rfl rfl ?_
  refine x_aload_n 10 (xd DX1_copy rfl) rfl rfl ?_
  refine x_gi 13 3 rfl LX1_22 (xd DX1_copy rfl) hD.1 ⟨Or.inr ⟨rfl, by show d < 259; omega⟩, by omega⟩ rfl ?_
  refine x_pi 16 3 rfl LX1_22 (xd DX1_copy rfl) hE.1 hE.2.2.2.2.2.2.1 ⟨Or.inr ⟨rfl, by show c < 259; omega⟩, by omega⟩ rfl ?_
  refine x_iconst 17 (xd DX1_copy rfl) rfl ?_
  refine x_istore_n 18 (L' := [(0, _), (1, _), (2, _)]) (xd DX1_copy rfl) (by decide) rfl rfl rfl ?_
  have ed : hset h c 2 (h d 2) d = h d := hset_c (by omega)
  rw [ed]
  exact loop 100 0 _ (by omega) (by omega) ((Off.set (by unfold S3; omega)).tr (Off.set (by unfold S3; omega))) (by rw [hset_i (by decide), hset_s]) (by rw [hset_s]) (fun j a b => absurd b (by omega))

def xStp (s : Nat) : Prop := xTY s = (6, 4) ∧ xTY (s + 1) = (13, 8) ∧ xRF s 0 = s + 1 + 1 ∧ (xRF s 1 = 0 ∧ xRF s 2 = 0 ∧ xRF s 3 = 0) ∧ s + 26 ≤ 192 ∧ ∀ e : Fin 8, xRF (s + 1) e.val = s + 2 + 3 * e.val + 1 ∧ xEnt (s + 2 + 3 * e.val)
theorem xStp_8 : xStp 8 := by unfold xStp xEnt; decide +kernel
theorem xStp_36 : ∀ k : Fin 6, xStp (36 + 26 * k.val) := by unfold xStp xEnt; decide +kernel
def S26 (s x : Nat) : Prop := s ≤ x ∧ x < s + 26
/-- the setup at s in g is the one at t in h -/
def SEq (g : XH) (s : Nat) (h : XH) (t : Nat) : Prop := g s 1 = h t 1 ∧ g s 2 = h t 2 ∧ g s 3 = h t 3 ∧ ∀ e : Nat, (e : Int) < h t 1 → EEq g (s + 2 + 3 * e) h (t + 2 + 3 * e)
theorem SEq.tr {a b c : XH} {x y z : Nat} (h1 : SEq a x b y) (h2 : SEq b y c z) : SEq a x c z := ⟨h1.1.trans h2.1, h1.2.1.trans h2.2.1, h1.2.2.1.trans h2.2.2.1, fun e he => (h1.2.2.2 e (by rw [h2.1]; exact he)).tr (h2.2.2.2 e he)⟩
theorem SEq.sw {g h : XH} {s t : Nat} (he : SEq g s h t) (hw : SW h t) : SW g s := by
  obtain ⟨a, b, c, d⟩ := he
  obtain ⟨w1, w2, w3, w4⟩ := hw
  exact ⟨by rw [a]; exact w1, by rw [b]; exact w2, by rw [c]; exact w3, fun e q => (d e (by rw [← a]; exact q)).ew (w4 e (by rw [← a]; exact q))⟩
theorem SEq.off {S : Nat → Prop} {h xg : XH} {s : Nat} (hO : Off S h xg) (hs : ∀ x, S26 s x → ¬ S x) (h8 : h s 1 ≤ 8) : SEq xg s h s := by
  unfold SEq
  rw [hO s (hs s (by unfold S26; omega))]
  exact ⟨rfl, rfl, rfl, fun e q => EEq.off hO (hs _ (by unfold S26; omega)) (hs _ (by unfold S26; omega)) (hs _ (by unfold S26; omega))⟩
set_option maxRecDepth 100000 in
set_option maxHeartbeats 4000000 in
theorem pX6_copy {K : XK} {n : Nat} {h : XH} (s t : Nat) (hS : xStp s) (hT : xStp t) (hst : s + 26 ≤ t ∨ t + 26 ≤ s) (h8 : 0 ≤ h t 1 ∧ h t 1 ≤ 8) : MV K mX6_copy 1 n [vr s, vr t] h (fun h' => Off (S26 s) h h' ∧ SEq h' s h t) := by
  refine xMeth FX6_copy (Nat.le_of_ble_eq_true rfl) ?_
  have s8 := hS.2.2.2.2.1
  have t8 := hT.2.2.2.2.1
  have loop : ∀ (m1 : Nat) (xk : Nat) (xg : XH), (xk : Int) ≤ h t 1 → h t 1 - xk < (m1 : Int) → Off (S26 s) h xg → xg s 1 = h t 1 → xg s 2 = h t 2 → xg s 3 = h t 3 → (∀ e : Nat, e < xk → EEq xg (s + 2 + 3 * e) h (t + 2 + 3 * e)) → WI K mX6_copy 1 n (qV n fun h' => Off (S26 s) h h' ∧ SEq h' s h t) 26 [(0, vr s), (1, vr t), (2, vi (xk : Int))] [] xg := by
    intro m1
    induction m1 with
    | zero => intro xk xg a b; exact absurd b (by omega)
    | succ m1 ih =>
      intro xk xg h0 hm1 hO e1 e2 e3 hk
      refine x_iload_n 27 (xd DX6_copy rfl) rfl rfl ?_
      refine x_aload_n 28 (xd DX6_copy rfl) rfl rfl ?_
      refine x_gi 31 1 rfl LX6_25 (xd DX6_copy rfl) hS.1 ⟨Or.inr ⟨rfl, by show s < 259; omega⟩, by omega⟩ rfl ?_
      refine x_icmp_ge 34 55 (xd DX6_copy rfl) rfl (by omega) (by omega) rfl (fun c31 => ?_) (fun c31 => ?_)
      · refine x_rv (xd DX6_copy rfl) rfl ?_
        exact ⟨hO, e1, e2, e3, fun e q => hk e (by omega)⟩
      · refine x_aload_n 35 (xd DX6_copy rfl) rfl rfl ?_
        refine x_gr 38 (s + 1) LX6_11 (xd DX6_copy rfl) hS.1 hS.2.2.1 ⟨by show s < 259; omega, by omega⟩ (by omega) rfl rfl ?_
        refine x_iload_n 39 (xd DX6_copy rfl) rfl rfl ?_
        refine x_aaload 40 (s + 2 + 3 * xk) (xd DX6_copy rfl) hS.2.1 (by decide) ⟨by show s + 1 < 259; omega, by omega⟩ (by decide) rfl (by omega) (hS.2.2.2.2.2 ⟨xk, by omega⟩).1 (by omega) rfl rfl ?_
        refine x_aload_n 41 (xd DX6_copy rfl) rfl rfl ?_
        refine x_gr 44 (t + 1) LX6_11 (xd DX6_copy rfl) hT.1 hT.2.2.1 ⟨by show t < 259; omega, by omega⟩ (by omega) rfl rfl ?_
        refine x_iload_n 45 (xd DX6_copy rfl) rfl rfl ?_
        refine x_aaload 46 (t + 2 + 3 * xk) (xd DX6_copy rfl) hT.2.1 (by decide) ⟨by show t + 1 < 259; omega, by omega⟩ (by decide) rfl (by omega) (hT.2.2.2.2.2 ⟨xk, by omega⟩).1 (by omega) rfl rfl ?_
        refine x_Vv 49 (pX1_copy (s + 2 + 3 * xk) (t + 2 + 3 * xk) (hS.2.2.2.2.2 ⟨xk, by omega⟩).2 (hT.2.2.2.2.2 ⟨xk, by omega⟩).2 (by omega)) FX1_copy VX1_copy CX6_28 (xd DX6_copy rfl) rfl rfl (hS.2.2.2.2.2 ⟨xk, by omega⟩).2.1 ⟨by decide, rfl⟩ ⟨by show s + 2 + 3 * xk < 259; omega, by omega⟩ (by decide) (Nat.le_of_ble_eq_true rfl) (by decide) rfl ?_
        rintro xq ⟨oq, eq⟩
        refine x_iinc 52 (L' := [(0, _), (1, _), (2, _)]) (xd DX6_copy rfl) rfl (by decide) rfl rfl rfl ?_
        refine x_goto 26 (xd DX6_copy rfl) rfl ?_
        refine ih (xk + 1) _ (by omega) (by omega) (hO.tr (oq.mono (fun x q => by unfold S3 at q; unfold S26; omega))) (by rw [oq s (by unfold S3; omega)]; exact e1) (by rw [oq s (by unfold S3; omega)]; exact e2) (by rw [oq s (by unfold S3; omega)]; exact e3) (fun e q => ?_)
        by_cases z : e = xk
        · subst z
          exact eq.tr (EEq.off hO (by unfold S26; omega) (by unfold S26; omega) (by unfold S26; omega))
        · exact (EEq.off oq (by unfold S3; omega) (by unfold S3; omega) (by unfold S3; omega)).tr (hk e (by omega))
  refine x_aload_n 1 (xd DX6_copy rfl) rfl rfl ?_
  refine x_aload_n 2 (xd DX6_copy rfl) rfl rfl ?_
  refine x_gi 5 1 rfl LX6_25 (xd DX6_copy rfl) hT.1 ⟨Or.inr ⟨rfl, by show t < 259; omega⟩, by omega⟩ rfl ?_
  refine x_pi 8 1 rfl LX6_25 (xd DX6_copy rfl) hS.1 hS.2.2.2.1.1 ⟨Or.inr ⟨rfl, by show s < 259; omega⟩, by omega⟩ rfl ?_
  refine x_aload_n 9 (xd DX6_copy rfl) rfl rfl ?_
  refine x_aload_n 10 (xd DX6_copy rfl) rfl rfl ?_
  refine x_gi 13 2 rfl LX6_17 (xd DX6_copy rfl) hT.1 ⟨Or.inr ⟨rfl, by show t < 259; omega⟩, by omega⟩ rfl ?_
  refine x_pi 16 2 rfl LX6_17 (xd DX6_copy rfl) hS.1 hS.2.2.2.1.2.1 ⟨Or.inr ⟨rfl, by show s < 259; omega⟩, by omega⟩ rfl ?_
  refine x_aload_n 17 (xd DX6_copy rfl) rfl rfl ?_
  refine x_aload_n 18 (xd DX6_copy rfl) rfl rfl ?_
  refine x_gi 21 3 rfl LX6_21 (xd DX6_copy rfl) hT.1 ⟨Or.inr ⟨rfl, by show t < 259; omega⟩, by omega⟩ rfl ?_
  refine x_pi 24 3 rfl LX6_21 (xd DX6_copy rfl) hS.1 hS.2.2.2.1.2.2 ⟨Or.inr ⟨rfl, by show s < 259; omega⟩, by omega⟩ rfl ?_
  refine x_iconst 25 (xd DX6_copy rfl) rfl ?_
  refine x_istore_n 26 (L' := [(0, _), (1, _), (2, _)]) (xd DX6_copy rfl) (by decide) rfl rfl rfl ?_
  have ed : ∀ k z, hset h s k z t = h t := fun k z => hset_c (by omega)
  have ed2 : hset (hset h s 1 (h t 1)) s 2 (h t 2) t = h t := by rw [hset_c (by omega), ed]
  rw [ed, ed2]
  exact loop 100 0 _ (by omega) (by omega) (((Off.set (by unfold S26; omega)).tr (Off.set (by unfold S26; omega))).tr (Off.set (by unfold S26; omega))) (by rw [hset_i (by decide), hset_i (by decide), hset_s]) (by rw [hset_i (by decide), hset_s]) (by rw [hset_s]) (fun e q => absurd q (by omega))
end
section
/-! Setup: the table; History -/
noncomputable def Alike (h : XH) (i m z : Int) : Prop := ∃ e : Nat, (e : Int) < h 8 1 ∧ h (10 + 3 * e) 2 = m ∧ h (10 + 3 * e) 3 = z ∧ Fits h (10 + 3 * e) i
def tbN (h : XH) : Nat → Int
  | 0 => 0
  | e + 1 => tbN h e + (1 + 2 * h (10 + 3 * e) 2)
def ST (x : Nat) : Prop := 8 ≤ x ∧ x < 34
theorem SW.ew {h : XH} (hS : SW h 8) {e : Nat} (he : (e : Int) < h 8 1) : EW h (10 + 3 * e) := by
  have := hS.2.2.2 e he
  rwa [show 8 + 2 + 3 * e = 10 + 3 * e by omega] at this
set_option maxRecDepth 100000 in
set_option maxHeartbeats 4000000 in
theorem pX6_has {K : XK} {n : Nat} {h : XH} (e : Int) (he : xrg e) (hE : xrg (h 8 1)) : MI K mX6_has 0 n [vr 8, vi e] h (fun z h' => z = xp (0 ≤ e ∧ e < h 8 1) ∧ h' = h) := by
  refine xMeth FX6_has (Nat.le_of_ble_eq_true rfl) ?_
  refine x_iload_n 1 (xd DX6_has rfl) rfl rfl ?_
  refine x_if_lt 4 16 (xd DX6_has rfl) rfl (by omega) rfl (fun c1 => ?_) (fun c1 => ?_)
  · refine x_iconst 17 (xd DX6_has rfl) rfl ?_
    refine x_rz (xd DX6_has rfl) rfl (by omega) ?_
    first | exact ⟨xp_t (by omega), rfl⟩ | exact ⟨xp_f (by omega), rfl⟩
  · refine x_iload_n 5 (xd DX6_has rfl) rfl rfl ?_
    refine x_aload_n 6 (xd DX6_has rfl) rfl rfl ?_
    refine x_gi 9 1 rfl LX6_25 (xd DX6_has rfl) rfl ⟨Or.inr ⟨rfl, by decide⟩, by decide⟩ rfl ?_
    refine x_icmp_ge 12 16 (xd DX6_has rfl) rfl (by omega) (by omega) rfl (fun c9 => ?_) (fun c9 => ?_)
    · refine x_iconst 17 (xd DX6_has rfl) rfl ?_
      refine x_rz (xd DX6_has rfl) rfl (by omega) ?_
      first | exact ⟨xp_t (by omega), rfl⟩ | exact ⟨xp_f (by omega), rfl⟩
    · refine x_iconst 13 (xd DX6_has rfl) rfl ?_
      refine x_goto 17 (xd DX6_has rfl) rfl ?_
      refine x_rz (xd DX6_has rfl) rfl (by omega) ?_
      first | exact ⟨xp_t (by omega), rfl⟩ | exact ⟨xp_f (by omega), rfl⟩

set_option maxRecDepth 100000 in
set_option maxHeartbeats 4000000 in
theorem pX6_tableNibbles {K : XK} {n : Nat} {h : XH} (hE : 0 ≤ h 8 1 ∧ h 8 1 ≤ 8) : MI K mX6_tableNibbles 1 n [vr 8] h (fun z h' => z = tbN h (h 8 1).toNat ∧ h' = h) := by
  refine xMeth FX6_tableNibbles (Nat.le_of_ble_eq_true rfl) ?_
  have loop : ∀ (m : Nat) (xe : Nat) (xz : Int), (xe : Int) ≤ h 8 1 → h 8 1 - xe < (m : Int) → xz = tbN h xe → WI K mX6_tableNibbles 1 n (qI n fun z h' => z = tbN h (h 8 1).toNat ∧ h' = h) 4 [(0, vr 8), (1, vi xz), (2, vi (xe : Int))] [] h := by
    intro m
    induction m with
    | zero => intro xe xz a b; exact absurd b (by omega)
    | succ m ih =>
      intro xe xz h0 hm hz
      refine x_iload_n 5 (xd DX6_tableNibbles rfl) rfl rfl ?_
      refine x_aload_n 6 (xd DX6_tableNibbles rfl) rfl rfl ?_
      refine x_gi 9 1 rfl LX6_25 (xd DX6_tableNibbles rfl) rfl ⟨Or.inr ⟨rfl, by decide⟩, by decide⟩ rfl ?_
      refine x_icmp_ge 12 33 (xd DX6_tableNibbles rfl) rfl (by omega) (by omega) rfl (fun c9 => ?_) (fun c9 => ?_)
      · refine x_iload_n 34 (xd DX6_tableNibbles rfl) rfl rfl ?_
        refine x_ri (xd DX6_tableNibbles rfl) rfl ?_
        refine ⟨?_, rfl⟩
        rw [hz, show (h 8 1).toNat = xe by omega]
      · refine x_iload_n 13 (xd DX6_tableNibbles rfl) rfl rfl ?_
        refine x_aload_n 14 (xd DX6_tableNibbles rfl) rfl rfl ?_
        refine x_gr 17 _ LX6_11 (xd DX6_tableNibbles rfl) rfl rfl ⟨by decide, by decide⟩ (by decide) rfl rfl ?_
        refine x_iload_n 18 (xd DX6_tableNibbles rfl) rfl rfl ?_
        refine x_aaload 19 (10 + 3 * xe) (xd DX6_tableNibbles rfl) rfl (by decide) ⟨by decide, by decide⟩ (by decide) rfl (by omega) (xRF_9 ⟨xe, by omega⟩) (by omega) rfl rfl ?_
        refine x_gi 22 2 rfl LX6_36 (xd DX6_tableNibbles rfl) (xEnt_10 ⟨xe, by omega⟩).1 ⟨Or.inr ⟨rfl, by show 10 + 3 * xe < 259; omega⟩, by omega⟩ rfl ?_
        refine x_Si 25 (pX8_entryNibbles _) FX8_entryNibbles VX8_entryNibbles CX6_46 (xd DX6_tableNibbles rfl) rfl rfl (by decide) (Nat.le_of_ble_eq_true rfl) (by decide) rfl ?_
        rintro z9 h9 ⟨q1, q2⟩
        rw [q1, q2]
        clear q1 q2 z9 h9
        refine x_iadd 26 (xd DX6_tableNibbles rfl) rfl ?_
        refine x_istore_n 27 (L' := [(0, _), (1, _), (2, _)]) (xd DX6_tableNibbles rfl) (by decide) rfl rfl rfl ?_
        refine x_iinc 30 (L' := [(0, _), (1, _), (2, _)]) (xd DX6_tableNibbles rfl) rfl (by decide) rfl rfl rfl ?_
        refine x_goto 4 (xd DX6_tableNibbles rfl) rfl ?_
        exact ih (xe + 1) _ (by omega) (by omega) (by rw [hz]; rfl)
  refine x_iconst 1 (xd DX6_tableNibbles rfl) rfl ?_
  refine x_istore_n 2 (L' := [(0, _), (1, _)]) (xd DX6_tableNibbles rfl) (by decide) rfl rfl rfl ?_
  refine x_iconst 3 (xd DX6_tableNibbles rfl) rfl ?_
  refine x_istore_n 4 (L' := [(0, _), (1, _), (2, _)]) (xd DX6_tableNibbles rfl) (by decide) rfl rfl rfl ?_
  exact loop 100 0 0 (by omega) (by omega) rfl

set_option maxRecDepth 100000 in
set_option maxHeartbeats 4000000 in
theorem pX6_hasAlike {K : XK} {n : Nat} {h : XH} (i m z : Int) (hP : PW h) (hS : SW h 8) (hi : xrg i) (hm : xrg m) (hz : xrg z) : MI K mX6_hasAlike 1 n [vr 8, vr 4, vi i, vi m, vi z] h (fun z1 h' => z1 = xp (Alike h i m (if z < 0 then -4 else z)) ∧ h' = h) := by
  refine xMeth FX6_hasAlike (Nat.le_of_ble_eq_true rfl) ?_
  have hS1 := hS.1
  have loop : ∀ zz : Int, zz = (if z < 0 then -4 else z) → xrg zz → ∀ (m1 : Nat) (xe : Nat), (xe : Int) ≤ h 8 1 → h 8 1 - xe < (m1 : Int) → (∀ e : Nat, e < xe → ¬ (h (10 + 3 * e) 2 = m ∧ h (10 + 3 * e) 3 = zz ∧ Fits h (10 + 3 * e) i)) → WI K mX6_hasAlike 1 n (qI n fun z1 h' => z1 = xp (Alike h i m (if z < 0 then -4 else z)) ∧ h' = h) 17 [(0, vr 8), (1, vr 4), (2, vi i), (3, vi m), (4, vi z), (5, vi zz), (6, vi (xe : Int))] [] h := by
    intro zz hzz hzr m1
    rw [← hzz]
    induction m1 with
    | zero => intro xe a b; exact absurd b (by omega)
    | succ m1 ih =>
      intro xe h0 hm1 hn
      refine x_iload 19 (xd DX6_hasAlike rfl) rfl rfl ?_
      refine x_aload_n 20 (xd DX6_hasAlike rfl) rfl rfl ?_
      refine x_gi 23 1 rfl LX6_25 (xd DX6_hasAlike rfl) rfl ⟨Or.inr ⟨rfl, by decide⟩, by decide⟩ rfl ?_
      refine x_icmp_ge 26 72 (xd DX6_hasAlike rfl) rfl (by omega) (by omega) rfl (fun c23 => ?_) (fun c23 => ?_)
      · refine x_iconst 73 (xd DX6_hasAlike rfl) rfl ?_
        refine x_rz (xd DX6_hasAlike rfl) rfl (by omega) ?_
        first | exact ⟨xp_t ⟨xe, by omega, c41, c51, c61⟩, rfl⟩ | exact ⟨xp_f (fun ⟨e, a, b⟩ => hn e (by omega) b), rfl⟩
      · refine x_aload_n 27 (xd DX6_hasAlike rfl) rfl rfl ?_
        refine x_gr 30 _ LX6_11 (xd DX6_hasAlike rfl) rfl rfl ⟨by decide, by decide⟩ (by decide) rfl rfl ?_
        refine x_iload 32 (xd DX6_hasAlike rfl) rfl rfl ?_
        refine x_aaload 33 (10 + 3 * xe) (xd DX6_hasAlike rfl) rfl (by decide) ⟨by decide, by decide⟩ (by decide) rfl (by omega) (xRF_9 ⟨xe, by omega⟩) (by omega) rfl rfl ?_
        refine x_astore 35 (L' := [(0, _), (1, _), (2, _), (3, _), (4, _), (5, _), (6, _), (7, _)]) (xd DX6_hasAlike rfl) (by decide) rfl rfl rfl ?_
        refine x_aload 37 (xd DX6_hasAlike rfl) rfl rfl ?_
        refine x_gi 40 2 rfl LX6_36 (xd DX6_hasAlike rfl) (xEnt_10 ⟨xe, by omega⟩).1 ⟨Or.inr ⟨rfl, by show 10 + 3 * xe < 259; omega⟩, by omega⟩ rfl ?_
        refine x_iload_n 41 (xd DX6_hasAlike rfl) rfl rfl ?_
        refine x_icmp_ne 44 66 (xd DX6_hasAlike rfl) rfl (by have := (hS.ew (e := xe) (by omega)).1; omega) (by have := (hS.ew (e := xe) (by omega)).1; omega) rfl (fun c41 => ?_) (fun c41 => ?_)
        · refine x_iinc 69 (L' := [(0, _), (1, _), (2, _), (3, _), (4, _), (5, _), (6, _), (7, _)]) (xd DX6_hasAlike rfl) rfl (by decide) rfl rfl rfl ?_
          refine x_goto 17 (xd DX6_hasAlike rfl) rfl ?_
          refine WX.locals (L' := [(0, _), (1, _), (2, _), (3, _), (4, _), (5, _), (6, _)]) (fun q hq => List.mem_append_left _ hq) ?_
          refine ih (xe + 1) (by omega) (by omega) (fun e q => ?_)
          by_cases z1 : e = xe
          · subst z1
            first | exact fun q => c41 q.1 | exact fun q => c51 q.2.1 | exact fun q => c61 q.2.2
          · exact hn e (by omega)
        · refine x_aload 46 (xd DX6_hasAlike rfl) rfl rfl ?_
          refine x_gi 49 3 rfl LX6_39 (xd DX6_hasAlike rfl) (xEnt_10 ⟨xe, by omega⟩).1 ⟨Or.inr ⟨rfl, by show 10 + 3 * xe < 259; omega⟩, by omega⟩ rfl ?_
          refine x_iload 51 (xd DX6_hasAlike rfl) rfl rfl ?_
          refine x_icmp_ne 54 66 (xd DX6_hasAlike rfl) rfl (by have := (hS.ew (e := xe) (by omega)).1; have := (hS.ew (e := xe) (by omega)).2.1; omega) (by have := (hS.ew (e := xe) (by omega)).1; have := (hS.ew (e := xe) (by omega)).2.1; omega) rfl (fun c51 => ?_) (fun c51 => ?_)
          · refine x_iinc 69 (L' := [(0, _), (1, _), (2, _), (3, _), (4, _), (5, _), (6, _), (7, _)]) (xd DX6_hasAlike rfl) rfl (by decide) rfl rfl rfl ?_
            refine x_goto 17 (xd DX6_hasAlike rfl) rfl ?_
            refine WX.locals (L' := [(0, _), (1, _), (2, _), (3, _), (4, _), (5, _), (6, _)]) (fun q hq => List.mem_append_left _ hq) ?_
            refine ih (xe + 1) (by omega) (by omega) (fun e q => ?_)
            by_cases z1 : e = xe
            · subst z1
              first | exact fun q => c41 q.1 | exact fun q => c51 q.2.1 | exact fun q => c61 q.2.2
            · exact hn e (by omega)
          · refine x_aload 56 (xd DX6_hasAlike rfl) rfl rfl ?_
            refine x_aload_n 57 (xd DX6_hasAlike rfl) rfl rfl ?_
            refine x_iload_n 58 (xd DX6_hasAlike rfl) rfl rfl ?_
            refine x_Vi 61 (pX1_fits (10 + 3 * xe) i (xEnt_10 ⟨xe, by omega⟩) (hS.ew (by omega)) hP (by omega)) FX1_fits VX1_fits CX6_42 (xd DX6_hasAlike rfl) rfl rfl (xEnt_10 ⟨xe, by omega⟩).1 ⟨by decide, rfl⟩ ⟨by show 10 + 3 * xe < 259; omega, by omega⟩ (by decide) (Nat.le_of_ble_eq_true rfl) (by decide) rfl ?_
            rintro z9 h9 ⟨q1, q2⟩
            rw [q1, q2]
            clear q1 q2 z9 h9
            refine x_ifp_eq 64 66 (xd DX6_hasAlike rfl) rfl rfl (fun c61 => ?_) (fun c61 => ?_)
            · refine x_iinc 69 (L' := [(0, _), (1, _), (2, _), (3, _), (4, _), (5, _), (6, _), (7, _)]) (xd DX6_hasAlike rfl) rfl (by decide) rfl rfl rfl ?_
              refine x_goto 17 (xd DX6_hasAlike rfl) rfl ?_
              refine WX.locals (L' := [(0, _), (1, _), (2, _), (3, _), (4, _), (5, _), (6, _)]) (fun q hq => List.mem_append_left _ hq) ?_
              refine ih (xe + 1) (by omega) (by omega) (fun e q => ?_)
              by_cases z1 : e = xe
              · subst z1
                first | exact fun q => c41 q.1 | exact fun q => c51 q.2.1 | exact fun q => c61 q.2.2
              · exact hn e (by omega)
            · refine x_iconst 65 (xd DX6_hasAlike rfl) rfl ?_
              refine x_rz (xd DX6_hasAlike rfl) rfl (by omega) ?_
              first | exact ⟨xp_t ⟨xe, by omega, c41, c51, c61⟩, rfl⟩ | exact ⟨xp_f (fun ⟨e, a, b⟩ => hn e (by omega) b), rfl⟩
  refine x_iload 2 (xd DX6_hasAlike rfl) rfl rfl ?_
  refine x_if_ge 5 10 (xd DX6_hasAlike rfl) rfl (by omega) rfl (fun c2 => ?_) (fun c2 => ?_)
  · refine x_iload 12 (xd DX6_hasAlike rfl) rfl rfl ?_
    refine x_istore 14 (L' := [(0, _), (1, _), (2, _), (3, _), (4, _), (5, _)]) (xd DX6_hasAlike rfl) (by decide) rfl rfl rfl ?_
    refine x_iconst 15 (xd DX6_hasAlike rfl) rfl ?_
    refine x_istore 17 (L' := [(0, _), (1, _), (2, _), (3, _), (4, _), (5, _), (6, _)]) (xd DX6_hasAlike rfl) (by decide) rfl rfl rfl ?_
    first | exact loop (-4) (by rw [if_pos (by omega)]) (by omega) 100 0 (by omega) (by omega) (fun e q => absurd q (by omega)) | exact loop z (by rw [if_neg (by omega)]) (by omega) 100 0 (by omega) (by omega) (fun e q => absurd q (by omega))
  · refine x_bipush 7 (xd DX6_hasAlike rfl) rfl rfl ?_
    refine x_goto 12 (xd DX6_hasAlike rfl) rfl ?_
    refine x_istore 14 (L' := [(0, _), (1, _), (2, _), (3, _), (4, _), (5, _)]) (xd DX6_hasAlike rfl) (by decide) rfl rfl rfl ?_
    refine x_iconst 15 (xd DX6_hasAlike rfl) rfl ?_
    refine x_istore 17 (L' := [(0, _), (1, _), (2, _), (3, _), (4, _), (5, _), (6, _)]) (xd DX6_hasAlike rfl) (by decide) rfl rfl rfl ?_
    first | exact loop (-4) (by rw [if_pos (by omega)]) (by omega) 100 0 (by omega) (by omega) (fun e q => absurd q (by omega)) | exact loop z (by rw [if_neg (by omega)]) (by omega) 100 0 (by omega) (by omega) (fun e q => absurd q (by omega))

set_option maxRecDepth 100000 in
set_option maxHeartbeats 4000000 in
theorem pX6_append {K : XK} {n : Nat} {h : XH} (i m z : Int) (hE : 0 ≤ h 8 1 ∧ h 8 1 < 8) (hi : 0 ≤ i) (hm : 2 ≤ m ∧ m ≤ 4) (him : i + m ≤ 48) (hz : xrg z) : MV K mX6_append 1 n [vr 8, vr 4, vi i, vi m, vi z] h (fun h' => Off ST h h' ∧ h' 8 1 = h 8 1 + 1 ∧ h' 8 2 = h 8 2 ∧ h' 8 3 = h 8 3 ∧ (∀ e : Nat, (e : Int) < h 8 1 → EEq h' (10 + 3 * e) h (10 + 3 * e)) ∧ Took h' (10 + 3 * (h 8 1).toNat) h i m z) := by
  refine xMeth FX6_append (Nat.le_of_ble_eq_true rfl) ?_
  obtain ⟨xe, he⟩ := Int.eq_ofNat_of_zero_le hE.1
  refine x_aload_n 1 (xd DX6_append rfl) rfl rfl ?_
  refine x_gi 4 1 rfl LX6_25 (xd DX6_append rfl) rfl ⟨Or.inr ⟨rfl, by decide⟩, by decide⟩ rfl ?_
  refine x_bipush 6 (xd DX6_append rfl) rfl rfl ?_
  refine x_icmp_ge 9 36 (xd DX6_append rfl) rfl (by omega) (by omega) rfl (fun c6 => absurd c6 (by omega)) (fun _ => ?_)
  refine x_aload_n 10 (xd DX6_append rfl) rfl rfl ?_
  refine x_gr 13 _ LX6_11 (xd DX6_append rfl) rfl rfl ⟨by decide, by decide⟩ (by decide) rfl rfl ?_
  refine x_aload_n 14 (xd DX6_append rfl) rfl rfl ?_
  refine x_gi 17 1 rfl LX6_25 (xd DX6_append rfl) rfl ⟨Or.inr ⟨rfl, by decide⟩, by decide⟩ rfl ?_
  refine x_aaload 18 (10 + 3 * xe) (xd DX6_append rfl) rfl (by decide) ⟨by decide, by decide⟩ (by decide) he (by omega) (xRF_9 ⟨xe, by omega⟩) (by omega) rfl rfl ?_
  refine x_aload_n 19 (xd DX6_append rfl) rfl rfl ?_
  refine x_iload_n 20 (xd DX6_append rfl) rfl rfl ?_
  refine x_iload_n 21 (xd DX6_append rfl) rfl rfl ?_
  refine x_iload 23 (xd DX6_append rfl) rfl rfl ?_
  refine x_Vv 26 (pX1_take (10 + 3 * xe) i m z (xEnt_10 ⟨xe, by omega⟩) (by omega) hi hm him hz) FX1_take VX1_take CX6_32 (xd DX6_append rfl) rfl rfl (xEnt_10 ⟨xe, by omega⟩).1 ⟨by decide, rfl⟩ ⟨by show 10 + 3 * xe < 259; omega, by omega⟩ (by decide) (Nat.le_of_ble_eq_true rfl) (by decide) rfl ?_
  rintro xq ⟨oq, tk⟩
  refine x_aload_n 27 (xd DX6_append rfl) rfl rfl ?_
  refine x_dupr 28 (xd DX6_append rfl) rfl ?_
  refine x_gi 31 1 rfl LX6_25 (xd DX6_append rfl) rfl ⟨Or.inr ⟨rfl, by decide⟩, by decide⟩ rfl ?_
  refine x_iconst 32 (xd DX6_append rfl) rfl ?_
  refine x_iadd 33 (xd DX6_append rfl) rfl ?_
  refine x_pi 36 1 rfl LX6_25 (xd DX6_append rfl) rfl rfl ⟨Or.inr ⟨rfl, by decide⟩, by decide⟩ rfl ?_
  refine x_rv (xd DX6_append rfl) rfl ?_
  have e8 : xq 8 = h 8 := oq 8 (by unfold S3; omega)
  rw [e8]
  refine ⟨(oq.mono (fun x q => by unfold S3 at q; unfold ST; omega)).tr (Off.set (by unfold ST; omega)), by rw [hset_s], by rw [hset_i (by decide), e8], by rw [hset_i (by decide), e8], fun e q => ?_, ?_⟩
  · exact (EEq.off (ocell (c := 8)) (by omega) (by omega) (by omega)).tr (EEq.off oq (by unfold S3; omega) (by unfold S3; omega) (by unfold S3; omega))
  · have : (h 8 1).toNat = xe := by omega
    rw [this]
    unfold Took
    rw [hset_c (by omega), hset_c (by omega), hset_c (by omega)]
    exact tk

set_option maxRecDepth 100000 in
set_option maxHeartbeats 4000000 in
theorem pX6_remove {K : XK} {n : Nat} {h : XH} (e : Nat) (hE : h 8 1 ≤ 8) (he : (e : Int) < h 8 1) : MV K mX6_remove 1 n [vr 8, vi (e : Int)] h (fun h' => Off ST h h' ∧ h' 8 1 = h 8 1 - 1 ∧ h' 8 2 = h 8 2 ∧ h' 8 3 = h 8 3 ∧ ∀ x : Nat, (x : Int) < h 8 1 - 1 → EEq h' (10 + 3 * x) h (10 + 3 * (if x < e then x else x + 1))) := by
  refine xMeth FX6_remove (Nat.le_of_ble_eq_true rfl) ?_
  have loop : ∀ (m1 : Nat) (xk : Nat) (xg : XH), e ≤ xk → (xk : Int) ≤ h 8 1 - 1 → h 8 1 - xk < (m1 : Int) → Off ST h xg → xg 8 1 = h 8 1 - 1 → xg 8 2 = h 8 2 → xg 8 3 = h 8 3 → (∀ x : Nat, x < xk → EEq xg (10 + 3 * x) h (10 + 3 * (if x < e then x else x + 1))) → (∀ x : Nat, xk ≤ x → (x : Int) < h 8 1 → EEq xg (10 + 3 * x) h (10 + 3 * x)) → WI K mX6_remove 1 n (qV n fun h' => Off ST h h' ∧ h' 8 1 = h 8 1 - 1 ∧ h' 8 2 = h 8 2 ∧ h' 8 3 = h 8 3 ∧ ∀ x : Nat, (x : Int) < h 8 1 - 1 → EEq h' (10 + 3 * x) h (10 + 3 * (if x < e then x else x + 1))) 12 [(0, vr 8), (1, vi (e : Int)), (2, vi (xk : Int))] [] xg := by
    intro m1
    induction m1 with
    | zero => intro xk xg a a2 b; exact absurd b (by omega)
    | succ m1 ih =>
      intro xk xg h00 h0 hm1 hO e1 e2 e3 hk hr
      refine x_iload_n 13 (xd DX6_remove rfl) rfl rfl ?_
      refine x_aload_n 14 (xd DX6_remove rfl) rfl rfl ?_
      refine x_gi 17 1 rfl LX6_25 (xd DX6_remove rfl) rfl ⟨Or.inr ⟨rfl, by decide⟩, by decide⟩ rfl ?_
      refine x_icmp_ge 20 43 (xd DX6_remove rfl) rfl (by omega) (by omega) rfl (fun c17 => ?_) (fun c17 => ?_)
      · refine x_rv (xd DX6_remove rfl) rfl ?_
        exact ⟨hO, e1, e2, e3, fun x q => by first | exact hk x (by omega)⟩
      · refine x_aload_n 21 (xd DX6_remove rfl) rfl rfl ?_
        refine x_gr 24 _ LX6_11 (xd DX6_remove rfl) rfl rfl ⟨by decide, by decide⟩ (by decide) rfl rfl ?_
        refine x_iload_n 25 (xd DX6_remove rfl) rfl rfl ?_
        refine x_aaload 26 (10 + 3 * xk) (xd DX6_remove rfl) rfl (by decide) ⟨by decide, by decide⟩ (by decide) rfl (by omega) (xRF_9 ⟨xk, by omega⟩) (by omega) rfl rfl ?_
        refine x_aload_n 27 (xd DX6_remove rfl) rfl rfl ?_
        refine x_gr 30 _ LX6_11 (xd DX6_remove rfl) rfl rfl ⟨by decide, by decide⟩ (by decide) rfl rfl ?_
        refine x_iload_n 31 (xd DX6_remove rfl) rfl rfl ?_
        refine x_iconst 32 (xd DX6_remove rfl) rfl ?_
        refine x_iadd 33 (xd DX6_remove rfl) rfl ?_
        refine x_aaload 34 (10 + 3 * (xk + 1)) (xd DX6_remove rfl) rfl (by decide) ⟨by decide, by decide⟩ (by decide) (show (xk : Int) + 1 = ((xk + 1 : Nat) : Int) from rfl) (by omega) (xRF_9 ⟨xk + 1, by omega⟩) (by omega) rfl rfl ?_
        refine x_Vv 37 (pX1_copy (10 + 3 * xk) (10 + 3 * (xk + 1)) (xEnt_10 ⟨xk, by omega⟩) (xEnt_10 ⟨xk + 1, by omega⟩) (by omega)) FX1_copy VX1_copy CX6_28 (xd DX6_remove rfl) rfl rfl (xEnt_10 ⟨xk, by omega⟩).1 ⟨by decide, rfl⟩ ⟨by show 10 + 3 * xk < 259; omega, by omega⟩ (by decide) (Nat.le_of_ble_eq_true rfl) (by decide) rfl ?_
        rintro xq ⟨oq, eq⟩
        refine x_iinc 40 (L' := [(0, _), (1, _), (2, _)]) (xd DX6_remove rfl) rfl (by decide) rfl rfl rfl ?_
        refine x_goto 12 (xd DX6_remove rfl) rfl ?_
        refine ih (xk + 1) _ (by omega) (by omega) (by omega) (hO.tr (oq.mono (fun x q => by unfold S3 at q; unfold ST; omega))) (by rw [oq 8 (by unfold S3; omega)]; exact e1) (by rw [oq 8 (by unfold S3; omega)]; exact e2) (by rw [oq 8 (by unfold S3; omega)]; exact e3) (fun x q => ?_) (fun x q q2 => ?_)
        · by_cases z : x = xk
          · subst z
            rw [if_neg (by omega)]
            exact eq.tr (hr (x + 1) (by omega) (by omega))
          · exact (EEq.off oq (by unfold S3; omega) (by unfold S3; omega) (by unfold S3; omega)).tr (hk x (by omega))
        · exact (EEq.off oq (by unfold S3; omega) (by unfold S3; omega) (by unfold S3; omega)).tr (hr x (by omega) q2)
  refine x_aload_n 1 (xd DX6_remove rfl) rfl rfl ?_
  refine x_dupr 2 (xd DX6_remove rfl) rfl ?_
  refine x_gi 5 1 rfl LX6_25 (xd DX6_remove rfl) rfl ⟨Or.inr ⟨rfl, by decide⟩, by decide⟩ rfl ?_
  refine x_iconst 6 (xd DX6_remove rfl) rfl ?_
  refine x_isub 7 (xd DX6_remove rfl) rfl ?_
  refine x_pi 10 1 rfl LX6_25 (xd DX6_remove rfl) rfl rfl ⟨Or.inr ⟨rfl, by decide⟩, by decide⟩ rfl ?_
  refine x_iload_n 11 (xd DX6_remove rfl) rfl rfl ?_
  refine x_istore_n 12 (L' := [(0, _), (1, _), (2, _)]) (xd DX6_remove rfl) (by decide) rfl rfl rfl ?_
  exact loop 100 e _ (by omega) (by omega) (by omega) (Off.set (by unfold ST; omega)) (by rw [hset_s]) (by rw [hset_i (by decide)]) (by rw [hset_i (by decide)]) (fun x q => by rw [if_pos (by omega)]; exact EEq.off (ocell (c := 8)) (by omega) (by omega) (by omega)) (fun x q q2 => EEq.off (ocell (c := 8)) (by omega) (by omega) (by omega))
end
section
/-! History -/
theorem xRF_35 : ∀ k : Fin 6, xRF 35 k.val = 36 + 26 * k.val + 1 := by decide
def HW (h : XH) : Prop := (0 ≤ h 34 1 ∧ h 34 1 ≤ 6) ∧ ∀ k : Nat, (k : Int) < h 34 1 → SW h (36 + 26 * k)
def SHi (x : Nat) : Prop := 34 ≤ x ∧ x < 192
def SGb (x : Nat) : Prop := 8 ≤ x ∧ x ≤ 34
theorem SEq.rf {h : XH} {s : Nat} : SEq h s h s := ⟨rfl, rfl, rfl, fun _ _ => ⟨rfl, rfl, fun _ _ _ => ⟨rfl, rfl⟩⟩⟩
set_option maxRecDepth 100000 in
set_option maxHeartbeats 4000000 in
theorem pX2_keep {K : XK} {n : Nat} {h : XH} (hH : HW h) (hS : SW h 8) : MV K mX2_keep 2 n [vr 34, vr 8] h (fun h' => Off SHi h h' ∧ h' 34 1 = (if h 34 1 = 6 then 6 else h 34 1 + 1) ∧ (∀ k : Nat, (k : Int) < h' 34 1 - 1 → SEq h' (36 + 26 * k) h (36 + 26 * (if h 34 1 = 6 then k + 1 else k))) ∧ SEq h' (36 + 26 * (h' 34 1 - 1).toNat) h 8) := by
  refine xMeth FX2_keep (Nat.le_of_ble_eq_true rfl) ?_
  have hH1 := hH.1
  have j50 : ∀ (xdp : Nat) (xg : XH), xdp < 6 → Off SHi h xg → xg 34 1 = (xdp : Int) → (xdp : Int) + 1 = (if h 34 1 = 6 then 6 else h 34 1 + 1) → (∀ k : Nat, k < xdp → SEq xg (36 + 26 * k) h (36 + 26 * (if h 34 1 = 6 then k + 1 else k))) → (∀ k : Nat, k < xdp → h (36 + 26 * (if h 34 1 = 6 then k + 1 else k)) 1 ≤ 8) → WI K mX2_keep 2 n (qV n fun h' => Off SHi h h' ∧ h' 34 1 = (if h 34 1 = 6 then 6 else h 34 1 + 1) ∧ (∀ k : Nat, (k : Int) < h' 34 1 - 1 → SEq h' (36 + 26 * k) h (36 + 26 * (if h 34 1 = 6 then k + 1 else k))) ∧ SEq h' (36 + 26 * (h' 34 1 - 1).toNat) h 8) 50 [(0, vr 34), (1, vr 8)] [] xg := by
    intro xdp xg hd0 hO hd1 hd2 hsl hs8
    have e8 : xg 8 = h 8 := hO 8 (by unfold SHi; omega)
    refine x_aload_n 51 (xd DX2_keep rfl) rfl rfl ?_
    refine x_gr 54 _ LX2_11 (xd DX2_keep rfl) rfl rfl ⟨by decide, by decide⟩ (by decide) rfl rfl ?_
    refine x_aload_n 55 (xd DX2_keep rfl) rfl rfl ?_
    refine x_gi 58 1 rfl LX2_18 (xd DX2_keep rfl) rfl ⟨Or.inr ⟨rfl, by decide⟩, by decide⟩ rfl ?_
    refine x_aaload 59 (36 + 26 * (xdp)) (xd DX2_keep rfl) rfl (by decide) ⟨by decide, by decide⟩ (by decide) hd1 (by omega) (xRF_35 ⟨xdp, by omega⟩) (by omega) rfl rfl ?_
    refine x_aload_n 60 (xd DX2_keep rfl) rfl rfl ?_
    refine x_Vv 63 (pX6_copy (36 + 26 * xdp) 8 (xStp_36 ⟨xdp, by omega⟩) xStp_8 (by omega) (by rw [e8]; exact hS.1)) FX6_copy VX6_copy CX2_22 (xd DX2_keep rfl) rfl rfl (xStp_36 ⟨xdp, by omega⟩).1 ⟨by decide, rfl⟩ ⟨by show 36 + 26 * xdp < 259; omega, by omega⟩ (by decide) (Nat.le_of_ble_eq_true rfl) (by decide) rfl ?_
    rintro xq ⟨oq, eq⟩
    refine x_aload_n 64 (xd DX2_keep rfl) rfl rfl ?_
    refine x_dupr 65 (xd DX2_keep rfl) rfl ?_
    refine x_gi 68 1 rfl LX2_18 (xd DX2_keep rfl) rfl ⟨Or.inr ⟨rfl, by decide⟩, by decide⟩ rfl ?_
    refine x_iconst 69 (xd DX2_keep rfl) rfl ?_
    refine x_iadd 70 (xd DX2_keep rfl) rfl ?_
    refine x_pi 73 1 rfl LX2_18 (xd DX2_keep rfl) rfl rfl ⟨Or.inr ⟨rfl, by decide⟩, by decide⟩ rfl ?_
    refine x_rv (xd DX2_keep rfl) rfl ?_
    refine ⟨(hO.tr (oq.mono (fun x q => by unfold S26 at q; unfold SHi; omega))).tr (Off.set (by unfold SHi; omega)), ?_, fun k q => ?_, ?_⟩
    · rw [hset_s, oq 34 (by unfold S26; omega), hd1, hd2]
    · rw [hset_s, oq 34 (by unfold S26; omega), hd1] at q
      exact (SEq.off (ocell (c := 34)) (fun x z => by unfold S26 at z; omega) (by have h1 := hsl k (by omega); have h2 : SEq xq (36 + 26 * k) xg (36 + 26 * k) := SEq.off oq (fun x z => by unfold S26 at z ⊢; omega) (by rw [h1.1]; exact hs8 k (by omega)); rw [h2.1, h1.1]; exact hs8 k (by omega))).tr ((SEq.off oq (fun x z => by unfold S26 at z ⊢; omega) (by rw [(hsl k (by omega)).1]; exact hs8 k (by omega))).tr (hsl k (by omega)))
    · rw [hset_s, oq 34 (by unfold S26; omega), hd1, show ((xdp : Int) + 1 - 1).toNat = xdp by omega]
      have z1 : SEq xg 8 h 8 := SEq.off hO (fun x z => by unfold S26 at z; unfold SHi; omega) hS.1.2
      exact (SEq.off (ocell (c := 34)) (fun x z => by unfold S26 at z; omega) (by rw [eq.1, e8]; exact hS.1.2)).tr (eq.tr z1)
  have loop : h 34 1 = 6 → ∀ (m1 : Nat) (xk : Nat) (xg : XH), 1 ≤ xk → xk ≤ 6 → 6 - xk < m1 → Off SHi h xg → xg 34 1 = h 34 1 → (∀ k : Nat, k + 1 < xk → SEq xg (36 + 26 * k) h (36 + 26 * (k + 1))) → (∀ k : Nat, xk ≤ k → k < 6 → SEq xg (36 + 26 * k) h (36 + 26 * k)) → WI K mX2_keep 2 n (qV n fun h' => Off SHi h h' ∧ h' 34 1 = (if h 34 1 = 6 then 6 else h 34 1 + 1) ∧ (∀ k : Nat, (k : Int) < h' 34 1 - 1 → SEq h' (36 + 26 * k) h (36 + 26 * (if h 34 1 = 6 then k + 1 else k))) ∧ SEq h' (36 + 26 * (h' 34 1 - 1).toNat) h 8) 11 [(0, vr 34), (1, vr 8), (2, vi (xk : Int))] [] xg := by
    intro c6 m1
    induction m1 with
    | zero => intro xk xg a a2 b; exact absurd b (by omega)
    | succ m1 ih =>
      intro xk xg h00 h0 hm1 hO e34 hk hr
      refine x_iload_n 12 (xd DX2_keep rfl) rfl rfl ?_
      refine x_bipush 14 (xd DX2_keep rfl) rfl rfl ?_
      refine x_icmp_ge 17 40 (xd DX2_keep rfl) rfl (by omega) (by omega) rfl (fun c14 => ?_) (fun c14 => ?_)
      · refine x_aload_n 41 (xd DX2_keep rfl) rfl rfl ?_
        refine x_dupr 42 (xd DX2_keep rfl) rfl ?_
        refine x_gi 45 1 rfl LX2_18 (xd DX2_keep rfl) rfl ⟨Or.inr ⟨rfl, by decide⟩, by decide⟩ rfl ?_
        refine x_iconst 46 (xd DX2_keep rfl) rfl ?_
        refine x_isub 47 (xd DX2_keep rfl) rfl ?_
        refine x_pi 50 1 rfl LX2_18 (xd DX2_keep rfl) rfl rfl ⟨Or.inr ⟨rfl, by decide⟩, by decide⟩ rfl ?_
        refine WX.locals (L' := [(0, _), (1, _)]) (fun q hq => List.mem_append_left _ hq) ?_
        refine j50 5 _ (by omega) (hO.tr (Off.set (by unfold SHi; omega))) (by rw [hset_s]; omega) (by rw [if_pos c6]; rfl) (fun k q => ?_) (fun k q => by rw [if_pos c6]; exact (hH.2 (k + 1) (by omega)).1.2)
        rw [if_pos c6]
        exact (SEq.off (ocell (c := 34)) (fun x z => by unfold S26 at z; omega) (by rw [(hk k (by omega)).1]; exact (hH.2 (k + 1) (by omega)).1.2)).tr (hk k (by omega))
      · refine x_aload_n 18 (xd DX2_keep rfl) rfl rfl ?_
        refine x_gr 21 _ LX2_11 (xd DX2_keep rfl) rfl rfl ⟨by decide, by decide⟩ (by decide) rfl rfl ?_
        refine x_iload_n 22 (xd DX2_keep rfl) rfl rfl ?_
        refine x_iconst 23 (xd DX2_keep rfl) rfl ?_
        refine x_isub 24 (xd DX2_keep rfl) rfl ?_
        refine x_aaload 25 (36 + 26 * (xk - 1)) (xd DX2_keep rfl) rfl (by decide) ⟨by decide, by decide⟩ (by decide) (show (xk : Int) - 1 = ((xk - 1 : Nat) : Int) by omega) (by omega) (xRF_35 ⟨xk - 1, by omega⟩) (by omega) rfl rfl ?_
        refine x_aload_n 26 (xd DX2_keep rfl) rfl rfl ?_
        refine x_gr 29 _ LX2_11 (xd DX2_keep rfl) rfl rfl ⟨by decide, by decide⟩ (by decide) rfl rfl ?_
        refine x_iload_n 30 (xd DX2_keep rfl) rfl rfl ?_
        refine x_aaload 31 (36 + 26 * (xk)) (xd DX2_keep rfl) rfl (by decide) ⟨by decide, by decide⟩ (by decide) rfl (by omega) (xRF_35 ⟨xk, by omega⟩) (by omega) rfl rfl ?_
        refine x_Vv 34 (pX6_copy (36 + 26 * (xk - 1)) (36 + 26 * xk) (xStp_36 ⟨xk - 1, by omega⟩) (xStp_36 ⟨xk, by omega⟩) (by omega) (by have := (hr xk (by omega) (by omega)).1; rw [this]; exact (hH.2 xk (by omega)).1)) FX6_copy VX6_copy CX2_22 (xd DX2_keep rfl) rfl rfl (xStp_36 ⟨xk - 1, by omega⟩).1 ⟨by decide, rfl⟩ ⟨by show 36 + 26 * (xk - 1) < 259; omega, by omega⟩ (by decide) (Nat.le_of_ble_eq_true rfl) (by decide) rfl ?_
        rintro xq ⟨oq, eq⟩
        refine x_iinc 37 (L' := [(0, _), (1, _), (2, _)]) (xd DX2_keep rfl) rfl (by decide) rfl rfl rfl ?_
        refine x_goto 11 (xd DX2_keep rfl) rfl ?_
        refine ih (xk + 1) _ (by omega) (by omega) (by omega) (hO.tr (oq.mono (fun x q => by unfold S26 at q; unfold SHi; omega))) (by rw [oq 34 (by unfold S26; omega)]; exact e34) (fun k q => ?_) (fun k q q2 => ?_)
        · by_cases z : k + 1 = xk
          · rw [show xk - 1 = k by omega] at eq
            rw [show k + 1 = xk by omega]
            exact eq.tr (hr xk (by omega) (by omega))
          · exact (SEq.off oq (fun x z2 => by unfold S26 at z2 ⊢; omega) (by rw [(hk k (by omega)).1]; exact (hH.2 (k + 1) (by omega)).1.2)).tr (hk k (by omega))
        · exact (SEq.off oq (fun x z2 => by unfold S26 at z2 ⊢; omega) (by rw [(hr k (by omega) q2).1]; exact (hH.2 k (by omega)).1.2)).tr (hr k (by omega) q2)
  refine x_aload_n 1 (xd DX2_keep rfl) rfl rfl ?_
  refine x_gi 4 1 rfl LX2_18 (xd DX2_keep rfl) rfl ⟨Or.inr ⟨rfl, by decide⟩, by decide⟩ rfl ?_
  refine x_bipush 6 (xd DX2_keep rfl) rfl rfl ?_
  refine x_icmp_ne 9 50 (xd DX2_keep rfl) rfl (by omega) (by omega) rfl (fun c6 => ?_) (fun c6 => ?_)
  · obtain ⟨xdp, hxd⟩ := Int.eq_ofNat_of_zero_le hH.1.1
    exact j50 xdp h (by omega) Off.rf hxd (by rw [if_neg c6]; omega) (fun k q => by rw [if_neg c6]; exact SEq.rf) (fun k q => by rw [if_neg c6]; exact (hH.2 k (by omega)).1.2)
  · refine x_iconst 10 (xd DX2_keep rfl) rfl ?_
    refine x_istore_n 11 (L' := [(0, _), (1, _), (2, _)]) (xd DX2_keep rfl) (by decide) rfl rfl rfl ?_
    exact loop c6 100 1 h (by omega) (by omega) (by omega) Off.rf (by omega) (fun k q => by omega) (fun k q q2 => SEq.rf)

set_option maxRecDepth 100000 in
set_option maxHeartbeats 4000000 in
theorem pX2_giveBack {K : XK} {n : Nat} {h : XH} (hH : HW h) (hD : 0 < h 34 1) : MV K mX2_giveBack 2 n [vr 34, vr 8] h (fun h' => Off SGb h h' ∧ h' 34 1 = h 34 1 - 1 ∧ SEq h' 8 h (36 + 26 * (h 34 1 - 1).toNat)) := by
  refine xMeth FX2_giveBack (Nat.le_of_ble_eq_true rfl) ?_
  have hH1 := hH.1
  obtain ⟨xdp, hxd⟩ := Int.eq_ofNat_of_zero_le (show 0 ≤ h 34 1 - 1 by omega)
  refine x_aload_n 1 (xd DX2_giveBack rfl) rfl rfl ?_
  refine x_gi 4 1 rfl LX2_18 (xd DX2_giveBack rfl) rfl ⟨Or.inr ⟨rfl, by decide⟩, by decide⟩ rfl ?_
  refine x_if_le 7 30 (xd DX2_giveBack rfl) rfl (by omega) rfl (fun c4 => absurd c4 (by omega)) (fun _ => ?_)
  refine x_aload_n 8 (xd DX2_giveBack rfl) rfl rfl ?_
  refine x_dupr 9 (xd DX2_giveBack rfl) rfl ?_
  refine x_gi 12 1 rfl LX2_18 (xd DX2_giveBack rfl) rfl ⟨Or.inr ⟨rfl, by decide⟩, by decide⟩ rfl ?_
  refine x_iconst 13 (xd DX2_giveBack rfl) rfl ?_
  refine x_isub 14 (xd DX2_giveBack rfl) rfl ?_
  refine x_pi 17 1 rfl LX2_18 (xd DX2_giveBack rfl) rfl rfl ⟨Or.inr ⟨rfl, by decide⟩, by decide⟩ rfl ?_
  refine x_aload_n 18 (xd DX2_giveBack rfl) rfl rfl ?_
  refine x_aload_n 19 (xd DX2_giveBack rfl) rfl rfl ?_
  refine x_gr 22 _ LX2_11 (xd DX2_giveBack rfl) rfl rfl ⟨by decide, by decide⟩ (by decide) rfl rfl ?_
  refine x_aload_n 23 (xd DX2_giveBack rfl) rfl rfl ?_
  have hd1 : hset h 34 1 (h 34 1 - 1) 34 1 = (xdp : Int) := by rw [hset_s]; omega
  refine x_gi 26 1 rfl LX2_18 (xd DX2_giveBack rfl) rfl ⟨Or.inr ⟨rfl, by decide⟩, by decide⟩ rfl ?_
  refine x_aaload 27 (36 + 26 * (xdp)) (xd DX2_giveBack rfl) rfl (by decide) ⟨by decide, by decide⟩ (by decide) hd1 (by omega) (xRF_35 ⟨xdp, by omega⟩) (by omega) rfl rfl ?_
  refine x_Vv 30 (pX6_copy 8 (36 + 26 * xdp) xStp_8 (xStp_36 ⟨xdp, by omega⟩) (by omega) (by rw [hset_c (by omega)]; exact (hH.2 xdp (by omega)).1)) FX6_copy VX6_copy CX2_22 (xd DX2_giveBack rfl) rfl rfl rfl ⟨by decide, rfl⟩ ⟨by decide, by decide⟩ (by decide) (Nat.le_of_ble_eq_true rfl) (by decide) rfl ?_
  rintro xq ⟨oq, eq⟩
  refine x_rv (xd DX2_giveBack rfl) rfl ?_
  refine ⟨(Off.set (c := 34) (by unfold SGb; omega)).tr (oq.mono (fun x q => by unfold S26 at q; unfold SGb; omega)), by rw [oq 34 (by unfold S26; omega), hset_s], ?_⟩
  rw [show (h 34 1 - 1).toNat = xdp by omega]
  exact eq.tr (SEq.off (ocell (c := 34)) (fun x z => by unfold S26 at z; omega) (hH.2 xdp (by omega)).1.2)
end
section
/-! Layout: sequences, gains -/
/-- m instructions from i on are simple, of one line, none but the first one a target -/
def SeqM (h : XH) (k : Nat) (i m : Int) : Prop := i + m ≤ h 4 3 ∧ i / (2 ^ k : Nat) = (i + m - 1) / (2 ^ k : Nat) ∧ ∀ x, 0 ≤ x → x < m → kSim (h 5 (i + x)) ∧ (x = 0 ∨ h 7 (i + x) = 0)
theorem rch_seq {h : XH} {k : Nat} {f : Int → Int} (hr : RchEq h k f 0) (hb : ∀ j, 0 ≤ j → j < h 4 3 → 0 ≤ f j ∧ f j ≤ 4) : ∀ (m : Nat) (i : Int), 0 ≤ i → i < h 4 3 → 1 ≤ m → m ≤ 4 → ((m : Int) ≤ f i ↔ SeqM h k i m)
  | 0, i, _, _, h1, _ => absurd h1 (by omega)
  | 1, i, h0, hi, _, _ => by
    rw [hr i h0 hi]
    unfold rchF
    by_cases q : kSim (h 5 i)
    · rw [pik_t q]
      have h9 : (1 : Int) ≤ pik (Lead h k i) (if 1 + f (i + 1) < 4 then 1 + f (i + 1) else 4) 1 := by
        by_cases q2 : Lead h k i
        · rw [pik_t q2]
          have := hb (i + 1) (by omega) q2.1
          split <;> omega
        · rw [pik_f q2]; exact Int.le_refl _
      refine ⟨fun _ => ⟨by show i + 1 ≤ h 4 3; omega, by show i / _ = (i + 1 - 1) / _; rw [show i + 1 - 1 = i by omega], fun x a b => ?_⟩, fun _ => h9⟩
      have : x = 0 := by have : x < 1 := b; omega
      subst this
      exact ⟨by rw [Int.add_zero]; exact q, Or.inl rfl⟩
    · rw [pik_f q]
      refine ⟨fun z => absurd z (by decide), fun z => absurd (z.2.2 0 (by omega) (by decide)).1 (by rw [Int.add_zero]; exact q)⟩
  | m + 2, i, h0, hi, _, h4 => by
    have hp : (0 : Int) < ((2 ^ k : Nat) : Int) := Int.natCast_pos.mpr (Nat.two_pow_pos k)
    have e1 : ((m + 2 : Nat) : Int) = (m : Int) + 2 := rfl
    have e2 : ((m + 1 : Nat) : Int) = (m : Int) + 1 := rfl
    rw [hr i h0 hi]
    unfold rchF
    by_cases q : kSim (h 5 i)
    · rw [pik_t q]
      by_cases q2 : Lead h k i
      · rw [pik_t q2]
        have ih := rch_seq hr hb (m + 1) (i + 1) (by omega) q2.1 (by omega) (by omega)
        have hb1 := hb (i + 1) (by omega) q2.1
        have h5 : ((m + 2 : Nat) : Int) ≤ (if 1 + f (i + 1) < 4 then 1 + f (i + 1) else 4) ↔ ((m + 1 : Nat) : Int) ≤ f (i + 1) := by
          split <;> omega
        rw [h5, ih]
        constructor
        · intro z
          refine ⟨by have := z.1; omega, ?_, fun x a b => ?_⟩
          · rw [q2.2.1, z.2.1]
            congr 1
            omega
          · by_cases x0 : x = 0
            · subst x0; exact ⟨by rw [Int.add_zero]; exact q, Or.inl rfl⟩
            · obtain ⟨z1, z2⟩ := z.2.2 (x - 1) (by omega) (by omega)
              rw [show i + 1 + (x - 1) = i + x by omega] at z1 z2
              refine ⟨z1, Or.inr ?_⟩
              rcases z2 with z2 | z2
              · have : x = 1 := by omega
                subst this
                exact q2.2.2.2
              · exact z2
        · intro z
          refine ⟨by have := z.1; omega, ?_, fun x a b => ?_⟩
          · have z1 := z.2.1
            have l1 : i / ((2 ^ k : Nat) : Int) ≤ (i + 1) / ((2 ^ k : Nat) : Int) := Int.ediv_le_ediv hp (by omega)
            rw [← q2.2.1, z1]
            congr 1
            omega
          · have z2 := z.2.2 (x + 1) (by omega) (by omega)
            rw [show i + (x + 1) = i + 1 + x by omega] at z2
            refine ⟨z2.1, ?_⟩
            rcases z2.2 with z3 | z3
            · exact absurd z3 (by omega)
            · exact Or.inr z3
      · rw [pik_f q2]
        refine ⟨fun z => absurd z (by omega), fun z => absurd ?_ q2⟩
        have l1 : i / ((2 ^ k : Nat) : Int) ≤ (i + 1) / ((2 ^ k : Nat) : Int) := Int.ediv_le_ediv hp (by omega)
        have l2 : (i + 1) / ((2 ^ k : Nat) : Int) ≤ (i + ((m + 2 : Nat) : Int) - 1) / ((2 ^ k : Nat) : Int) := Int.ediv_le_ediv hp (by omega)
        have z1 := z.2.1
        have z2 := z.2.2 1 (by omega) (by omega)
        exact ⟨by have := z.1; omega, by omega, z2.1, z2.2.resolve_left (by decide)⟩
    · rw [pik_f q]
      refine ⟨fun z => absurd z (by omega), fun z => absurd (z.2.2 0 (by omega) (by omega)).1 (by rw [Int.add_zero]; exact q)⟩
theorem rch_le {h : XH} {k : Nat} {f : Int → Int} (hr : RchEq h k f 0) (hb : ∀ j, 0 ≤ j → j < h 4 3 → 0 ≤ f j ∧ f j ≤ 4) {i : Int} (h0 : 0 ≤ i) (hi : i < h 4 3) : i + f i ≤ h 4 3 := by
  have h9 := hb i h0 hi
  by_cases q : f i = 0
  · omega
  · have := (rch_seq hr hb (f i).toNat i h0 hi (by omega) (by omega)).mp (by omega)
    have := this.1
    omega
/-- the fewest nibbles from i on with the candidate, of d lengths of references tried -/
def trp (h : XH) (t : Int → Int) (i : Int) : Nat → Int
  | 0 => kOwn (h 5 i) + t (i + 1)
  | d + 1 => if 0 < h (195 + i.toNat) ((d : Int) + 2) then (if h (195 + i.toNat) ((d : Int) + 2) + t (i + ((d : Int) + 2)) < trp h t i d then h (195 + i.toNat) ((d : Int) + 2) + t (i + ((d : Int) + 2)) else trp h t i d) else trp h t i d
noncomputable def trF (h : XH) (t : Int → Int) (i : Int) : Int := pik (Mt h 246 i) (if kRef (h 246 3) + t (i + h 246 2) < trp h t i (h 193 i - 1).toNat then kRef (h 246 3) + t (i + h 246 2) else trp h t i (h 193 i - 1).toNat) (trp h t i (h 193 i - 1).toNat)
def TrEq (h : XH) (t : Int → Int) (i : Int) : Prop := t (h 4 3) = 0 ∧ ∀ j, i ≤ j → j < h 4 3 → t j = trF h t j
theorem trp_t {h : XH} {t t' : Int → Int} {i : Int} (hf : ∀ j, i < j → t j = t' j) : ∀ d : Nat, trp h t i d = trp h t' i d
  | 0 => by unfold trp; rw [hf (i + 1) (by omega)]
  | d + 1 => by unfold trp; rw [trp_t hf d, hf (i + ((d : Int) + 2)) (by omega)]
theorem trF_t {h : XH} {t t' : Int → Int} {i : Int} (hf : ∀ j, i < j → t j = t' j) (hc : 1 ≤ h 246 2) : trF h t i = trF h t' i := by
  unfold trF
  rw [trp_t hf, hf (i + h 246 2) (by omega)]
theorem trp_rg {h : XH} {t : Int → Int} {i B : Int} (hB : 0 ≤ B) (hi : 0 ≤ i ∧ i < h 4 3) (hs : ∀ p, 2 ≤ p → p ≤ 4 → h (195 + i.toNat) p ≤ 3) (ht : ∀ j, i < j → j ≤ h 4 3 → 0 ≤ t j ∧ t j ≤ B) : ∀ d : Nat, d ≤ 3 → i + ((d : Int) + 1) ≤ h 4 3 → 0 ≤ trp h t i d ∧ trp h t i d ≤ B + 4
  | 0, _, _ => by
    unfold trp
    have h1 := ht (i + 1) (by omega) (by omega)
    have h2 := kOwn_rg (h 5 i)
    omega
  | d + 1, hd, hN => by
    have ih := trp_rg hB hi hs ht d (by omega) (by omega)
    have h1 := ht (i + ((d : Int) + 2)) (by omega) (by omega)
    unfold trp
    split
    · split <;> omega
    · exact ih
theorem trp_off {S : Nat → Prop} {h xg : XH} (hO : Off S h xg) (h5 : ¬ S 5) {i : Int} (hr : ¬ S (195 + i.toNat)) {t : Int → Int} : ∀ d : Nat, trp xg t i d = trp h t i d
  | 0 => by unfold trp; rw [hO 5 h5]
  | d + 1 => by unfold trp; rw [trp_off hO h5 hr d, hO _ hr]
theorem trF_off {h xg : XH} {c : Nat} (hO : Off (fun x => x = c) h xg) (hc : c = 245 ∨ c = 254) {i : Int} (hi : i < 48) {t : Int → Int} : trF xg t i = trF h t i := by
  unfold trF
  rw [trp_off hO (by omega) (by omega), hO 193 (by omega), hO 246 (by omega), Mt.off hO (by omega) (by omega) (by omega) (by omega) (by omega) (by omega) (by omega)]
set_option maxRecDepth 100000 in
set_option maxHeartbeats 4000000 in
theorem pX3_fewestWithCandidate {K : XK} {n : Nat} {h : XH} (hP : PW h) (hC : EW h 246) (hr : ∀ j, 0 ≤ j → j < h 4 3 → 0 ≤ h 193 j ∧ h 193 j ≤ 4) (hrl : ∀ j, 0 ≤ j → j < h 4 3 → j + h 193 j ≤ h 4 3) (hs : ∀ j : Nat, (j : Int) < h 4 3 → ∀ p, 2 ≤ p → p ≤ 4 → 0 ≤ h (195 + j) p ∧ h (195 + j) p ≤ 3) : MI K mX3_fewestWithCandidate 3 n [vr 192] h (fun z h' => Off (fun x => x = 245) h h' ∧ TrEq h (h' 245) 0 ∧ (z = h' 245 0 ∧ 0 ≤ z ∧ z ≤ 192)) := by
  refine xMeth FX3_fewestWithCandidate (Nat.le_of_ble_eq_true rfl) ?_
  have hP1 := hP.1
  have loop : ∀ (m : Nat) (xi : Int) (xg : XH), -1 ≤ xi → xi < h 4 3 → xi + 1 < (m : Int) → Off (fun x => x = 245) h xg → xg 245 (h 4 3) = 0 → (∀ j, xi < j → j < h 4 3 → xg 245 j = trF h (xg 245) j) → (∀ j, xi < j → j ≤ h 4 3 → 0 ≤ xg 245 j ∧ xg 245 j ≤ 4 * (h 4 3 - j)) → WI K mX3_fewestWithCandidate 3 n (qI n fun z h' => Off (fun x => x = 245) h h' ∧ TrEq h (h' 245) 0 ∧ (z = h' 245 0 ∧ 0 ≤ z ∧ z ≤ 192)) 34 [(0, vr 192), (1, vi (kRef (h 246 3))), (2, vi xi)] [] xg := by
    intro m
    induction m with
    | zero => intro xi xg a b c; exact absurd c (by omega)
    | succ m ih =>
      intro xi xg h0 h1 hm hO hz ht hb
      have hPg : PW xg := hP.off hO (by decide) (by decide) (by decide) (by decide)
      refine x_iload_n 35 (xd DX3_fewestWithCandidate rfl) rfl rfl ?_
      refine x_if_lt 38 162 (xd DX3_fewestWithCandidate rfl) rfl (by omega) rfl (fun c35 => ?_) (fun c35 => ?_)
      · refine x_aload_n 163 (xd DX3_fewestWithCandidate rfl) rfl rfl ?_
        refine x_gr 166 _ LX3_26 (xd DX3_fewestWithCandidate rfl) rfl rfl ⟨by decide, by decide⟩ (by decide) rfl rfl ?_
        refine x_iconst 167 (xd DX3_fewestWithCandidate rfl) rfl ?_
        refine x_iaload 168 (xd DX3_fewestWithCandidate rfl) rfl ⟨Or.inr ⟨rfl, by decide⟩, by decide⟩ (by decide) (by omega) (by omega) rfl ?_
        refine x_ri (xd DX3_fewestWithCandidate rfl) rfl ?_
        exact ⟨hO, ⟨hz, fun j a b => ht j (by omega) b⟩, rfl, by have := hb 0 (by omega) (by omega); omega⟩
      · obtain ⟨xj, rfl⟩ := Int.eq_ofNat_of_zero_le c35
        have hj : xj < 48 := by omega
        have e4 : xg 4 3 = h 4 3 := by rw [hO 4 (by decide)]
        have e193 : xg 193 = h 193 := hO 193 (by decide)
        have e246 : xg 246 = h 246 := hO 246 (by decide)
        have erow : xg (195 + xj) = h (195 + xj) := hO _ (by omega)
        have hrr1 := hr (xj : Int) (by omega) (by omega)
        have hrl1 := hrl (xj : Int) (by omega) (by omega)
        have hkk := kRef_rg (h 246 3)
        have loop2 : ∀ (m2 : Nat) (xdd : Nat) (xp1 : Int), ((xdd : Int) ≤ h 193 xj - 1 ∨ xdd = 0) → 5 - xdd < m2 → xp1 = (xdd : Int) + 2 → ∀ xz, xz = trp h (xg 245) (xj : Int) xdd → WI K mX3_fewestWithCandidate 3 n (qI n fun z h' => Off (fun x => x = 245) h h' ∧ TrEq h (h' 245) 0 ∧ (z = h' 245 0 ∧ 0 ≤ z ∧ z ≤ 192)) 63 [(0, vr 192), (1, vi (kRef (h 246 3))), (2, vi (xj : Int)), (3, vi xz), (4, vi xp1)] [] xg := by
          intro m2
          induction m2 with
          | zero => intro xdd xp1 a b; exact absurd b (by omega)
          | succ m2 ih2 =>
            intro xdd xp1 h2 hm2 hxp xz hxz
            have hzr : 0 ≤ xz ∧ xz ≤ 4 * (h 4 3 - xj) := by
              have h8 := trp_rg (h := h) (t := xg 245) (i := (xj : Int)) (B := 4 * (h 4 3 - xj) - 4) (by omega) (by omega) (fun p a b => by rw [Int.toNat_natCast]; exact (hs xj (by omega) p a b).2) (fun x a b => by have := hb x a b; omega) xdd (by omega) (by omega)
              rw [hxz]; omega
            refine x_iload 65 (xd DX3_fewestWithCandidate rfl) rfl rfl ?_
            refine x_aload_n 66 (xd DX3_fewestWithCandidate rfl) rfl rfl ?_
            refine x_gr 69 _ LX3_9 (xd DX3_fewestWithCandidate rfl) rfl rfl ⟨by decide, by decide⟩ (by decide) rfl rfl ?_
            refine x_iload_n 70 (xd DX3_fewestWithCandidate rfl) rfl rfl ?_
            refine x_iaload 71 (xd DX3_fewestWithCandidate rfl) rfl ⟨Or.inr ⟨rfl, by decide⟩, by decide⟩ (by decide) (by omega) (by omega) rfl ?_
            refine x_icmp_gt 74 116 (xd DX3_fewestWithCandidate rfl) rfl (by first | omega | (rw [e193]; have := hr (xj : Int) (by omega) (by omega); omega)) (by first | omega | (rw [e193]; have := hr (xj : Int) (by omega) (by omega); omega)) rfl (fun c71 => ?_) (fun c71 => ?_)
            · refine x_aload_n 117 (xd DX3_fewestWithCandidate rfl) rfl rfl ?_
              refine x_aload_n 118 (xd DX3_fewestWithCandidate rfl) rfl rfl ?_
              refine x_gr 121 _ LX3_32 (xd DX3_fewestWithCandidate rfl) rfl rfl ⟨by decide, by decide⟩ (by decide) rfl rfl ?_
              refine x_iload_n 122 (xd DX3_fewestWithCandidate rfl) rfl rfl ?_
              refine x_Vi 125 (pX3_matches 246 (xj : Int) xEnt_246 (hC.off hO (by decide) (by decide) (by decide)) hPg (by omega) (by rw [e193]; have := hr (xj : Int) (by omega) (by omega); omega)) FX3_matches VX3_matches CX3_129 (xd DX3_fewestWithCandidate rfl) rfl rfl rfl ⟨by decide, rfl⟩ ⟨by decide, by decide⟩ (by decide) (Nat.le_of_ble_eq_true rfl) (by decide) rfl ?_
              rintro z9 h9 ⟨q1, q2⟩
              rw [q1, q2]
              clear q1 q2 z9 h9
              rw [Mt.off hO (by decide) (by decide) (by decide) (by decide) (by decide) (by decide) (by decide)]
              refine x_ifp_eq 128 149 (xd DX3_fewestWithCandidate rfl) rfl rfl (fun c125 => ?_) (fun c125 => ?_)
              · refine x_aload_n 150 (xd DX3_fewestWithCandidate rfl) rfl rfl ?_
                refine x_gr 153 _ LX3_26 (xd DX3_fewestWithCandidate rfl) rfl rfl ⟨by decide, by decide⟩ (by decide) rfl rfl ?_
                refine x_iload_n 154 (xd DX3_fewestWithCandidate rfl) rfl rfl ?_
                refine x_iload_n 155 (xd DX3_fewestWithCandidate rfl) rfl rfl ?_
                refine x_iastore 156 (xd DX3_fewestWithCandidate rfl) rfl ⟨Or.inr ⟨rfl, by decide⟩, by decide⟩ (by decide) (by omega) (by omega) rfl ?_
                refine x_iinc 159 (L' := [(0, _), (1, _), (2, _), (3, _), (4, _)]) (xd DX3_fewestWithCandidate rfl) rfl (by decide) rfl rfl rfl ?_
                refine x_goto 34 (xd DX3_fewestWithCandidate rfl) rfl ?_
                refine WX.locals (L' := [(0, _), (1, _), (2, _)]) (fun q hq => List.mem_append_left _ hq) ?_
                have hrr := hr (xj : Int) (by omega) (by omega)
                have hzf : ∀ zz, zz = trF h (xg 245) (xj : Int) → WX K mX3_fewestWithCandidate (true, 3, 0, 0) (qI n fun z h' => Off (fun x => x = 245) h h' ∧ TrEq h (h' 245) 0 ∧ (z = h' 245 0 ∧ 0 ≤ z ∧ z ≤ 192)) (n, 0, 0) 34 [(0, vr 192), (1, vi (kRef (h 246 3))), (2, vi ((xj : Int) + -1))] [] (hset xg 245 (xj : Int) zz) := by
                  intro zz hzz
                  refine ih _ _ (by omega) (by omega) (by omega) (hO.tr ocell) (by rw [hset_i (by omega)]; exact hz) (fun j a b => ?_) (fun j a b => ?_)
                  · have hcc : 1 ≤ h 246 2 := by have := hC.1; omega
                    by_cases q : j = (xj : Int)
                    · subst q
                      rw [hset_s, hzz]
                      exact trF_t (fun x q => by rw [hset_i (by omega)]) hcc
                    · rw [hset_i q, ht j (by omega) b]
                      exact trF_t (fun x q => by rw [hset_i (by omega)]) hcc
                  · by_cases q : j = (xj : Int)
                    · subst q
                      rw [hset_s, hzz]
                      have h8 := trp_rg (h := h) (t := xg 245) (i := (xj : Int)) (B := 4 * (h 4 3 - xj) - 4) (by omega) (by omega) (fun p a b => by rw [Int.toNat_natCast]; exact (hs xj (by omega) p a b).2) (fun x a b => by have := hb x a b; omega) (h 193 xj - 1).toNat (by omega) (by have := hrl (xj : Int) (by omega) (by omega); omega)
                      have h7 := kRef_rg (h 246 3)
                      unfold trF
                      by_cases q : Mt h 246 (xj : Int)
                      · rw [pik_t q]
                        have h6 := hb ((xj : Int) + h 246 2) (by have := hC.1; omega) (by have := q.2.2.1; omega)
                        split <;> omega
                      · rw [pik_f q]; omega
                    · rw [hset_i q]; exact hb j (by omega) b
                apply hzf
                unfold trF
                rw [e193] at c71
                rw [show (h 193 (xj : Int) - 1).toNat = xdd by omega]
                first
                  | (rw [pik_t c125, e246, hxz]; done)
                  | (rw [pik_f c125, hxz]; done)
                  | (rw [pik_t c125, ← hxz, e246])
              · refine x_iload_n 129 (xd DX3_fewestWithCandidate rfl) rfl rfl ?_
                refine x_iload_n 130 (xd DX3_fewestWithCandidate rfl) rfl rfl ?_
                refine x_aload_n 131 (xd DX3_fewestWithCandidate rfl) rfl rfl ?_
                refine x_gr 134 _ LX3_26 (xd DX3_fewestWithCandidate rfl) rfl rfl ⟨by decide, by decide⟩ (by decide) rfl rfl ?_
                refine x_iload_n 135 (xd DX3_fewestWithCandidate rfl) rfl rfl ?_
                refine x_aload_n 136 (xd DX3_fewestWithCandidate rfl) rfl rfl ?_
                refine x_gr 139 _ LX3_32 (xd DX3_fewestWithCandidate rfl) rfl rfl ⟨by decide, by decide⟩ (by decide) rfl rfl ?_
                refine x_gi 142 2 rfl LX3_139 (xd DX3_fewestWithCandidate rfl) rfl ⟨Or.inr ⟨rfl, by decide⟩, by decide⟩ rfl ?_
                refine x_iadd 143 (xd DX3_fewestWithCandidate rfl) rfl ?_
                refine x_iaload 144 (xd DX3_fewestWithCandidate rfl) rfl ⟨Or.inr ⟨rfl, by decide⟩, by decide⟩ (by decide) (by have h91 := c125.2.2.1; have h92 := hC.1; rw [e246]; omega) (by have h91 := c125.2.2.1; have h92 := hC.1; rw [e246]; omega) rfl ?_
                refine x_iadd 145 (xd DX3_fewestWithCandidate rfl) rfl ?_
                refine x_min 148 mmLX3_98 mmS mmI mmC (xd DX3_fewestWithCandidate rfl) ⟨by decide, Nat.le_refl _, Nat.le_refl _⟩ (Nat.le_of_ble_eq_true rfl) (by omega) (by rw [e246]; have q1 := hC.1; have q2 := c125.2.2.1; have := hb ((xj : Int) + h 246 2) (by omega) (by omega); omega) rfl ?_
                refine x_istore_n 149 (L' := [(0, _), (1, _), (2, _), (3, _), (4, _)]) (xd DX3_fewestWithCandidate rfl) (by decide) rfl rfl rfl ?_
                refine x_aload_n 150 (xd DX3_fewestWithCandidate rfl) rfl rfl ?_
                refine x_gr 153 _ LX3_26 (xd DX3_fewestWithCandidate rfl) rfl rfl ⟨by decide, by decide⟩ (by decide) rfl rfl ?_
                refine x_iload_n 154 (xd DX3_fewestWithCandidate rfl) rfl rfl ?_
                refine x_iload_n 155 (xd DX3_fewestWithCandidate rfl) rfl rfl ?_
                refine x_iastore 156 (xd DX3_fewestWithCandidate rfl) rfl ⟨Or.inr ⟨rfl, by decide⟩, by decide⟩ (by decide) (by omega) (by omega) rfl ?_
                refine x_iinc 159 (L' := [(0, _), (1, _), (2, _), (3, _), (4, _)]) (xd DX3_fewestWithCandidate rfl) rfl (by decide) rfl rfl rfl ?_
                refine x_goto 34 (xd DX3_fewestWithCandidate rfl) rfl ?_
                refine WX.locals (L' := [(0, _), (1, _), (2, _)]) (fun q hq => List.mem_append_left _ hq) ?_
                have hrr := hr (xj : Int) (by omega) (by omega)
                have hzf : ∀ zz, zz = trF h (xg 245) (xj : Int) → WX K mX3_fewestWithCandidate (true, 3, 0, 0) (qI n fun z h' => Off (fun x => x = 245) h h' ∧ TrEq h (h' 245) 0 ∧ (z = h' 245 0 ∧ 0 ≤ z ∧ z ≤ 192)) (n, 0, 0) 34 [(0, vr 192), (1, vi (kRef (h 246 3))), (2, vi ((xj : Int) + -1))] [] (hset xg 245 (xj : Int) zz) := by
                  intro zz hzz
                  refine ih _ _ (by omega) (by omega) (by omega) (hO.tr ocell) (by rw [hset_i (by omega)]; exact hz) (fun j a b => ?_) (fun j a b => ?_)
                  · have hcc : 1 ≤ h 246 2 := by have := hC.1; omega
                    by_cases q : j = (xj : Int)
                    · subst q
                      rw [hset_s, hzz]
                      exact trF_t (fun x q => by rw [hset_i (by omega)]) hcc
                    · rw [hset_i q, ht j (by omega) b]
                      exact trF_t (fun x q => by rw [hset_i (by omega)]) hcc
                  · by_cases q : j = (xj : Int)
                    · subst q
                      rw [hset_s, hzz]
                      have h8 := trp_rg (h := h) (t := xg 245) (i := (xj : Int)) (B := 4 * (h 4 3 - xj) - 4) (by omega) (by omega) (fun p a b => by rw [Int.toNat_natCast]; exact (hs xj (by omega) p a b).2) (fun x a b => by have := hb x a b; omega) (h 193 xj - 1).toNat (by omega) (by have := hrl (xj : Int) (by omega) (by omega); omega)
                      have h7 := kRef_rg (h 246 3)
                      unfold trF
                      by_cases q : Mt h 246 (xj : Int)
                      · rw [pik_t q]
                        have h6 := hb ((xj : Int) + h 246 2) (by have := hC.1; omega) (by have := q.2.2.1; omega)
                        split <;> omega
                      · rw [pik_f q]; omega
                    · rw [hset_i q]; exact hb j (by omega) b
                apply hzf
                unfold trF
                rw [e193] at c71
                rw [show (h 193 (xj : Int) - 1).toNat = xdd by omega]
                first
                  | (rw [pik_t c125, e246, hxz]; done)
                  | (rw [pik_f c125, hxz]; done)
                  | (rw [pik_t c125, ← hxz, e246])
            · refine x_aload_n 75 (xd DX3_fewestWithCandidate rfl) rfl rfl ?_
              refine x_gr 78 _ LX3_17 (xd DX3_fewestWithCandidate rfl) rfl rfl ⟨by decide, by decide⟩ (by decide) rfl rfl ?_
              refine x_iload_n 79 (xd DX3_fewestWithCandidate rfl) rfl rfl ?_
              refine x_aaload 80 (195 + xj) (xd DX3_fewestWithCandidate rfl) rfl (by decide) ⟨by decide, by decide⟩ (by decide) rfl (by omega) (xRF_194 ⟨xj, hj⟩) (by omega) rfl rfl ?_
              refine x_iload 82 (xd DX3_fewestWithCandidate rfl) rfl rfl ?_
              refine x_iaload 83 (xd DX3_fewestWithCandidate rfl) (xTY_row ⟨xj, hj⟩) ⟨Or.inr ⟨rfl, by show 195 + xj < 259; omega⟩, by omega⟩ (by decide) (by first | omega | (rw [e193] at c71; have := hr (xj : Int) (by omega) (by omega); omega)) (by first | omega | (rw [e193] at c71; have := hr (xj : Int) (by omega) (by omega); omega)) rfl ?_
              refine x_if_le 86 110 (xd DX3_fewestWithCandidate rfl) rfl (by rw [erow]; have := hs xj (by omega) xp1 (by omega) (by rw [e193] at c71; have := hr (xj : Int) (by omega) (by omega); omega); omega) rfl (fun c83 => ?_) (fun c83 => ?_)
              · refine x_iinc 113 (L' := [(0, _), (1, _), (2, _), (3, _), (4, _)]) (xd DX3_fewestWithCandidate rfl) rfl (by decide) rfl rfl rfl ?_
                refine x_goto 63 (xd DX3_fewestWithCandidate rfl) rfl ?_
                rw [e193] at c71
                have hrr := hr (xj : Int) (by omega) (by omega)
                have hxp : xp1 = (xdd : Int) + 2 := hxp
                first
                  | (refine ih2 (xdd + 1) _ (by omega) (by omega) ?_ _ ?_
                     · omega
                     · rw [erow] at c83 ⊢
                       unfold trp
                       rw [Int.toNat_natCast, ← hxp, if_pos c83, hxz])
                  | (refine ih2 (xdd + 1) _ (by omega) (by omega) ?_ _ ?_
                     · omega
                     · rw [erow] at c83
                       unfold trp
                       rw [Int.toNat_natCast, ← hxp, if_neg (by omega), hxz])
              · refine x_iload_n 87 (xd DX3_fewestWithCandidate rfl) rfl rfl ?_
                refine x_aload_n 88 (xd DX3_fewestWithCandidate rfl) rfl rfl ?_
                refine x_gr 91 _ LX3_17 (xd DX3_fewestWithCandidate rfl) rfl rfl ⟨by decide, by decide⟩ (by decide) rfl rfl ?_
                refine x_iload_n 92 (xd DX3_fewestWithCandidate rfl) rfl rfl ?_
                refine x_aaload 93 (195 + xj) (xd DX3_fewestWithCandidate rfl) rfl (by decide) ⟨by decide, by decide⟩ (by decide) rfl (by omega) (xRF_194 ⟨xj, hj⟩) (by omega) rfl rfl ?_
                refine x_iload 95 (xd DX3_fewestWithCandidate rfl) rfl rfl ?_
                refine x_iaload 96 (xd DX3_fewestWithCandidate rfl) (xTY_row ⟨xj, hj⟩) ⟨Or.inr ⟨rfl, by show 195 + xj < 259; omega⟩, by omega⟩ (by decide) (by first | omega | (rw [e193] at c71; have := hr (xj : Int) (by omega) (by omega); omega)) (by first | omega | (rw [e193] at c71; have := hr (xj : Int) (by omega) (by omega); omega)) rfl ?_
                refine x_aload_n 97 (xd DX3_fewestWithCandidate rfl) rfl rfl ?_
                refine x_gr 100 _ LX3_26 (xd DX3_fewestWithCandidate rfl) rfl rfl ⟨by decide, by decide⟩ (by decide) rfl rfl ?_
                refine x_iload_n 101 (xd DX3_fewestWithCandidate rfl) rfl rfl ?_
                refine x_iload 103 (xd DX3_fewestWithCandidate rfl) rfl rfl ?_
                refine x_iadd 104 (xd DX3_fewestWithCandidate rfl) rfl ?_
                refine x_iaload 105 (xd DX3_fewestWithCandidate rfl) rfl ⟨Or.inr ⟨rfl, by decide⟩, by decide⟩ (by decide) (by rw [e193] at c71; have := hr (xj : Int) (by omega) (by omega); omega) (by rw [e193] at c71; have := hr (xj : Int) (by omega) (by omega); omega) rfl ?_
                refine x_iadd 106 (xd DX3_fewestWithCandidate rfl) rfl ?_
                refine x_min 109 mmLX3_98 mmS mmI mmC (xd DX3_fewestWithCandidate rfl) ⟨by decide, Nat.le_refl _, Nat.le_refl _⟩ (Nat.le_of_ble_eq_true rfl) (by omega) (by rw [erow]; rw [e193] at c71; have := hb ((xj : Int) + xp1) (by omega) (by omega); have := hs xj (by omega) xp1 (by omega) (by omega); omega) rfl ?_
                refine x_istore_n 110 (L' := [(0, _), (1, _), (2, _), (3, _), (4, _)]) (xd DX3_fewestWithCandidate rfl) (by decide) rfl rfl rfl ?_
                refine x_iinc 113 (L' := [(0, _), (1, _), (2, _), (3, _), (4, _)]) (xd DX3_fewestWithCandidate rfl) rfl (by decide) rfl rfl rfl ?_
                refine x_goto 63 (xd DX3_fewestWithCandidate rfl) rfl ?_
                rw [e193] at c71
                have hrr := hr (xj : Int) (by omega) (by omega)
                have hxp : xp1 = (xdd : Int) + 2 := hxp
                first
                  | (refine ih2 (xdd + 1) _ (by omega) (by omega) ?_ _ ?_
                     · omega
                     · rw [erow] at c83 ⊢
                       unfold trp
                       rw [Int.toNat_natCast, ← hxp, if_pos c83, hxz])
                  | (refine ih2 (xdd + 1) _ (by omega) (by omega) ?_ _ ?_
                     · omega
                     · rw [erow] at c83
                       unfold trp
                       rw [Int.toNat_natCast, ← hxp, if_neg (by omega), hxz])
        refine x_aload_n 39 (xd DX3_fewestWithCandidate rfl) rfl rfl ?_
        refine x_gr 42 _ LX3_51 (xd DX3_fewestWithCandidate rfl) rfl rfl ⟨by decide, by decide⟩ (by decide) rfl rfl ?_
        refine x_gr 45 _ LX3_88 (xd DX3_fewestWithCandidate rfl) rfl rfl ⟨by decide, by decide⟩ (by decide) rfl rfl ?_
        refine x_iload_n 46 (xd DX3_fewestWithCandidate rfl) rfl rfl ?_
        refine x_iaload 47 (xd DX3_fewestWithCandidate rfl) rfl ⟨Or.inr ⟨rfl, by decide⟩, by decide⟩ (by decide) (by omega) (by omega) rfl ?_
        refine x_Si 50 (pX8_nibblesOf _ (by have := hPg.v (i := (xj : Int)) (by omega) (by omega); omega)) FX8_nibblesOf VX8_nibblesOf CX3_115 (xd DX3_fewestWithCandidate rfl) rfl rfl (by decide) (Nat.le_of_ble_eq_true rfl) (by decide) rfl ?_
        rintro z9 h9 ⟨q1, q2⟩
        rw [q1, q2]
        clear q1 q2 z9 h9
        refine x_aload_n 51 (xd DX3_fewestWithCandidate rfl) rfl rfl ?_
        refine x_gr 54 _ LX3_26 (xd DX3_fewestWithCandidate rfl) rfl rfl ⟨by decide, by decide⟩ (by decide) rfl rfl ?_
        refine x_iload_n 55 (xd DX3_fewestWithCandidate rfl) rfl rfl ?_
        refine x_iconst 56 (xd DX3_fewestWithCandidate rfl) rfl ?_
        refine x_iadd 57 (xd DX3_fewestWithCandidate rfl) rfl ?_
        refine x_iaload 58 (xd DX3_fewestWithCandidate rfl) rfl ⟨Or.inr ⟨rfl, by decide⟩, by decide⟩ (by decide) (by omega) (by omega) rfl ?_
        refine x_iadd 59 (xd DX3_fewestWithCandidate rfl) rfl ?_
        refine x_istore_n 60 (L' := [(0, _), (1, _), (2, _), (3, _)]) (xd DX3_fewestWithCandidate rfl) (by decide) rfl rfl rfl ?_
        refine x_iconst 61 (xd DX3_fewestWithCandidate rfl) rfl ?_
        refine x_istore 63 (L' := [(0, _), (1, _), (2, _), (3, _), (4, _)]) (xd DX3_fewestWithCandidate rfl) (by decide) rfl rfl rfl ?_
        exact loop2 100 0 2 (Or.inr rfl) (by omega) rfl _ (by unfold trp; rw [← hO 5 (by decide)])
  refine x_aload_n 1 (xd DX3_fewestWithCandidate rfl) rfl rfl ?_
  refine x_gr 4 _ LX3_32 (xd DX3_fewestWithCandidate rfl) rfl rfl ⟨by decide, by decide⟩ (by decide) rfl rfl ?_
  refine x_gi 7 3 rfl LX3_133 (xd DX3_fewestWithCandidate rfl) rfl ⟨Or.inr ⟨rfl, by decide⟩, by decide⟩ rfl ?_
  refine x_Si 10 (pX8_referenceNibbles _ (by have := hC.1; have := hC.2.1; omega)) FX8_referenceNibbles VX8_referenceNibbles CX3_136 (xd DX3_fewestWithCandidate rfl) rfl rfl (by decide) (Nat.le_of_ble_eq_true rfl) (by decide) rfl ?_
  rintro z9 h9 ⟨q1, q2⟩
  rw [q1, q2]
  clear q1 q2 z9 h9
  refine x_istore_n 11 (L' := [(0, _), (1, _)]) (xd DX3_fewestWithCandidate rfl) (by decide) rfl rfl rfl ?_
  refine x_aload_n 12 (xd DX3_fewestWithCandidate rfl) rfl rfl ?_
  refine x_gr 15 _ LX3_26 (xd DX3_fewestWithCandidate rfl) rfl rfl ⟨by decide, by decide⟩ (by decide) rfl rfl ?_
  refine x_aload_n 16 (xd DX3_fewestWithCandidate rfl) rfl rfl ?_
  refine x_gr 19 _ LX3_51 (xd DX3_fewestWithCandidate rfl) rfl rfl ⟨by decide, by decide⟩ (by decide) rfl rfl ?_
  refine x_gi 22 3 rfl LX3_68 (xd DX3_fewestWithCandidate rfl) rfl ⟨Or.inr ⟨rfl, by decide⟩, by decide⟩ rfl ?_
  refine x_iconst 23 (xd DX3_fewestWithCandidate rfl) rfl ?_
  refine x_iastore 24 (xd DX3_fewestWithCandidate rfl) rfl ⟨Or.inr ⟨rfl, by decide⟩, by decide⟩ (by decide) (by omega) (by omega) rfl ?_
  refine x_aload_n 25 (xd DX3_fewestWithCandidate rfl) rfl rfl ?_
  refine x_gr 28 _ LX3_51 (xd DX3_fewestWithCandidate rfl) rfl rfl ⟨by decide, by decide⟩ (by decide) rfl rfl ?_
  refine x_gi 31 3 rfl LX3_68 (xd DX3_fewestWithCandidate rfl) rfl ⟨Or.inr ⟨rfl, by decide⟩, by decide⟩ rfl ?_
  refine x_iconst 32 (xd DX3_fewestWithCandidate rfl) rfl ?_
  refine x_isub 33 (xd DX3_fewestWithCandidate rfl) rfl ?_
  refine x_istore_n 34 (L' := [(0, _), (1, _), (2, _)]) (xd DX3_fewestWithCandidate rfl) (by decide) rfl rfl rfl ?_
  have z4 : hset h 245 (h 4 3) 0 4 = h 4 := hset_c (by decide)
  rw [z4]
  exact loop 100 _ _ (by omega) (by omega) (by omega) ocell hset_s (fun j a b => absurd b (by omega)) (fun j a b => by rw [show j = h 4 3 by omega, hset_s]; omega)
end
section
/-! Layout.gainOf, mostGainOf -/
theorem LY.hr {h : XH} (hL : LY h) : ∀ j, 0 ≤ j → j < h 4 3 → 0 ≤ h 193 j ∧ h 193 j ≤ 4 := hL.2.2.1
theorem LY.hrl {h : XH} (hL : LY h) : ∀ j, 0 ≤ j → j < h 4 3 → j + h 193 j ≤ h 4 3 := fun j a b => by
  obtain ⟨k, -, -, -, hr⟩ := hL.1
  exact rch_le hr hL.hr a b
theorem LY.hs {h : XH} (hL : LY h) : ∀ j : Nat, (j : Int) < h 4 3 → ∀ p, 2 ≤ p → p ≤ 4 → 0 ≤ h (195 + j) p ∧ h (195 + j) p ≤ 3 := fun j q p a b => by
  have h1 := (hL.2.2.2.2.1 (j : Int) (by omega) q).2.2 p a b
  rw [Int.toNat_natCast] at h1
  rw [h1]
  exact shr_rg _
/-- a sequence as the program has it: simple instructions, within -/
def SqOk (h : XH) (i m : Int) : Prop := 0 ≤ i ∧ 2 ≤ m ∧ m ≤ 4 ∧ i + m ≤ h 4 3 ∧ ∀ x, 0 ≤ x → x < m → kSim (h 5 (i + x))
theorem Took.ew {g h : XH} {c : Nat} {i m z : Int} (ht : Took g c h i m z) (hP : PW h) (hs : SqOk h i m) (hz : -1 ≤ z ∧ z < m) : EW g c := by
  obtain ⟨a, b, e⟩ := ht
  obtain ⟨s1, s2, s3, s4, s5⟩ := hs
  unfold EW
  rw [a, b]
  refine ⟨⟨s2, s3⟩, by split <;> omega, fun j q r => ?_⟩
  rw [(e j q r).1, (e j q r).2]
  have k1 := s5 j q r
  have k2 := (hP.2 (i + j) (by omega) (by omega)).2.1 k1.2
  exact ⟨k1, k2⟩
theorem cntR_rg (p : Nat → Prop) (a : Nat) : ∀ d : Nat, 0 ≤ cntR p a d ∧ cntR p a d ≤ d
  | 0 => by unfold cntR; omega
  | d + 1 => by
    have := cntR_rg p a d
    have h2 := xp01 (p (a + d))
    unfold cntR
    omega
theorem mostRg {m c : Int} {p : Nat → Prop} {d : Nat} (h1 : 2 ≤ m) (h2 : m ≤ 4) (hd : d ≤ 48) : xrg ((2 * m - kRef c) * cntR p 0 d - (1 + 2 * m)) := by
  have h3 := cntR_rg p 0 d
  have h4 := kRef_rg c
  have h5 : 0 ≤ (2 * m - kRef c) * cntR p 0 d := Int.mul_nonneg (by omega) h3.1
  have h6 : (2 * m - kRef c) * cntR p 0 d ≤ 8 * 48 := Int.mul_le_mul (by omega) (by omega) h3.1 (by decide)
  omega
def SGa (x : Nat) : Prop := x = 245 ∨ S3 246 x
set_option maxRecDepth 100000 in
set_option maxHeartbeats 4000000 in
theorem pX3_gainOf {K : XK} {n : Nat} {h : XH} (i m z : Int) (hP : PW h) (hL : LY h) (hs : SqOk h i m) (hz : -1 ≤ z ∧ z < m) : MI K mX3_gainOf 4 n [vr 192, vi i, vi m, vi z] h (fun zr h' => Off SGa h h' ∧ Took h' 246 h i m z ∧ TrEq h' (h' 245) 0 ∧ zr = h 192 13 - h' 245 0 - (1 + 2 * m) ∧ 0 ≤ h' 245 0 ∧ h' 245 0 ≤ 192) := by
  refine xMeth FX3_gainOf (Nat.le_of_ble_eq_true rfl) ?_
  have hP1 := hP.1
  refine x_aload_n 1 (xd DX3_gainOf rfl) rfl rfl ?_
  refine x_gr 4 _ LX3_32 (xd DX3_gainOf rfl) rfl rfl ⟨by decide, by decide⟩ (by decide) rfl rfl ?_
  refine x_aload_n 5 (xd DX3_gainOf rfl) rfl rfl ?_
  refine x_gr 8 _ LX3_51 (xd DX3_gainOf rfl) rfl rfl ⟨by decide, by decide⟩ (by decide) rfl rfl ?_
  refine x_iload_n 9 (xd DX3_gainOf rfl) rfl rfl ?_
  refine x_iload_n 10 (xd DX3_gainOf rfl) rfl rfl ?_
  refine x_iload_n 11 (xd DX3_gainOf rfl) rfl rfl ?_
  refine x_Vv 14 (pX1_take 246 i m z xEnt_246 (by omega) hs.1 ⟨hs.2.1, hs.2.2.1⟩ (by have := hs.2.2.2.1; omega) (by have := hs.2.2.1; omega)) FX1_take VX1_take CX3_160 (xd DX3_gainOf rfl) rfl rfl rfl ⟨by decide, rfl⟩ ⟨by decide, by decide⟩ (by decide) (Nat.le_of_ble_eq_true rfl) (by decide) rfl ?_
  rintro h1 ⟨o1, tk⟩
  have P1 : PW h1 := hP.off o1 (by unfold S3; omega) (by unfold S3; omega) (by unfold S3; omega) (by unfold S3; omega)
  have C1 : EW h1 246 := tk.ew hP hs hz
  have e4 : h1 4 = h 4 := o1 4 (by unfold S3; omega)
  have e193 : h1 193 = h 193 := o1 193 (by unfold S3; omega)
  have hr1 : ∀ j, 0 ≤ j → j < h1 4 3 → 0 ≤ h1 193 j ∧ h1 193 j ≤ 4 := by rw [e4, e193]; exact hL.hr
  refine x_aload_n 15 (xd DX3_gainOf rfl) rfl rfl ?_
  refine x_gi 18 13 rfl LX3_142 (xd DX3_gainOf rfl) rfl ⟨Or.inr ⟨rfl, by decide⟩, by decide⟩ rfl ?_
  refine x_aload_n 19 (xd DX3_gainOf rfl) rfl rfl ?_
  refine x_Vi 22 (pX3_fewestWithCandidate P1 C1 hr1 (by rw [e4, e193]; exact hL.hrl) (fun j q p a b => by rw [e4] at q; rw [o1 (195 + j) (by unfold S3; omega)]; exact hL.hs j q p a b)) FX3_fewestWithCandidate VX3_fewestWithCandidate CX3_164 (xd DX3_gainOf rfl) rfl rfl rfl ⟨by decide, rfl⟩ ⟨by decide, by decide⟩ (by decide) (Nat.le_of_ble_eq_true rfl) (by decide) rfl ?_
  rintro zf h2 ⟨o2, t2, rfl, b2⟩
  refine x_isub 23 (xd DX3_gainOf rfl) rfl ?_
  refine x_iload_n 24 (xd DX3_gainOf rfl) rfl rfl ?_
  refine x_Si 27 (pX8_entryNibbles m) FX8_entryNibbles VX8_entryNibbles CX3_168 (xd DX3_gainOf rfl) rfl rfl (by decide) (Nat.le_of_ble_eq_true rfl) (by decide) rfl ?_
  rintro z9 h9 ⟨q1, q2⟩
  rw [q1, q2]
  clear q1 q2 z9 h9
  refine x_isub 28 (xd DX3_gainOf rfl) rfl ?_
  refine x_ri (xd DX3_gainOf rfl) rfl ?_
  refine ⟨(o1.mono (fun x q => Or.inr q)).tr (o2.mono (fun x q => Or.inl q)), ?_, ⟨?_, fun j a b => ?_⟩, ?_, b2⟩
  · unfold Took
    rw [o2 246 (by decide), o2 (246 + 1) (by decide), o2 (246 + 2) (by decide)]
    exact tk
  · rw [o2 4 (by decide)]; exact t2.1
  · rw [o2 4 (by decide)] at b
    rw [trF_off o2 (Or.inl rfl) (by have := P1.1; omega)]
    exact t2.2 j a b
  · rw [o1 192 (by unfold S3; omega)]

set_option maxRecDepth 100000 in
set_option maxHeartbeats 4000000 in
theorem pX3_mostGainOf {K : XK} {n : Nat} {h : XH} (i m z : Int) (hP : PW h) (hL : LY h) (hs : SqOk h i m) (hz : -1 ≤ z ∧ z < m) : MI K mX3_mostGainOf 4 n [vr 192, vi i, vi m, vi z] h (fun zr h' => Off (S3 246) h h' ∧ Took h' 246 h i m z ∧ zr = (2 * m - kRef (h' 246 3)) * cntR (fun j => Mt h' 246 j) 0 (h 4 3).toNat - (1 + 2 * m) ∧ xrg zr) := by
  refine xMeth FX3_mostGainOf (Nat.le_of_ble_eq_true rfl) ?_
  have hP1 := hP.1
  refine x_aload_n 1 (xd DX3_mostGainOf rfl) rfl rfl ?_
  refine x_gr 4 _ LX3_32 (xd DX3_mostGainOf rfl) rfl rfl ⟨by decide, by decide⟩ (by decide) rfl rfl ?_
  refine x_aload_n 5 (xd DX3_mostGainOf rfl) rfl rfl ?_
  refine x_gr 8 _ LX3_51 (xd DX3_mostGainOf rfl) rfl rfl ⟨by decide, by decide⟩ (by decide) rfl rfl ?_
  refine x_iload_n 9 (xd DX3_mostGainOf rfl) rfl rfl ?_
  refine x_iload_n 10 (xd DX3_mostGainOf rfl) rfl rfl ?_
  refine x_iload_n 11 (xd DX3_mostGainOf rfl) rfl rfl ?_
  refine x_Vv 14 (pX1_take 246 i m z xEnt_246 (by omega) hs.1 ⟨hs.2.1, hs.2.2.1⟩ (by have := hs.2.2.2.1; omega) (by have := hs.2.2.1; omega)) FX1_take VX1_take CX3_160 (xd DX3_mostGainOf rfl) rfl rfl rfl ⟨by decide, rfl⟩ ⟨by decide, by decide⟩ (by decide) (Nat.le_of_ble_eq_true rfl) (by decide) rfl ?_
  rintro h1 ⟨o1, tk⟩
  have P1 : PW h1 := hP.off o1 (by unfold S3; omega) (by unfold S3; omega) (by unfold S3; omega) (by unfold S3; omega)
  have C1 : EW h1 246 := tk.ew hP hs hz
  have e4 : h1 4 = h 4 := o1 4 (by unfold S3; omega)
  have e193 : h1 193 = h 193 := o1 193 (by unfold S3; omega)
  have hr1 : ∀ j, 0 ≤ j → j < h1 4 3 → 0 ≤ h1 193 j ∧ h1 193 j ≤ 4 := by rw [e4, e193]; exact hL.hr
  refine x_iconst 15 (xd DX3_mostGainOf rfl) rfl ?_
  refine x_iload_n 16 (xd DX3_mostGainOf rfl) rfl rfl ?_
  refine x_imul 17 (xd DX3_mostGainOf rfl) rfl ?_
  refine x_aload_n 18 (xd DX3_mostGainOf rfl) rfl rfl ?_
  refine x_gr 21 _ LX3_32 (xd DX3_mostGainOf rfl) rfl rfl ⟨by decide, by decide⟩ (by decide) rfl rfl ?_
  refine x_gi 24 3 rfl LX3_133 (xd DX3_mostGainOf rfl) rfl ⟨Or.inr ⟨rfl, by decide⟩, by decide⟩ rfl ?_
  refine x_Si 27 (pX8_referenceNibbles _ (by have := C1.1; have := C1.2.1; omega)) FX8_referenceNibbles VX8_referenceNibbles CX3_136 (xd DX3_mostGainOf rfl) rfl rfl (by decide) (Nat.le_of_ble_eq_true rfl) (by decide) rfl ?_
  rintro z9 h9 ⟨q1, q2⟩
  rw [q1, q2]
  clear q1 q2 z9 h9
  refine x_isub 28 (xd DX3_mostGainOf rfl) rfl ?_
  refine x_istore 30 (L' := [(0, _), (1, _), (2, _), (3, _), (4, _)]) (xd DX3_mostGainOf rfl) (by decide) rfl rfl rfl ?_
  refine x_iload 32 (xd DX3_mostGainOf rfl) rfl rfl ?_
  refine x_aload_n 33 (xd DX3_mostGainOf rfl) rfl rfl ?_
  refine x_aload_n 34 (xd DX3_mostGainOf rfl) rfl rfl ?_
  refine x_gr 37 _ LX3_32 (xd DX3_mostGainOf rfl) rfl rfl ⟨by decide, by decide⟩ (by decide) rfl rfl ?_
  refine x_Vi 40 (pX3_matchesOf 246 xEnt_246 C1 P1 hr1) FX3_matchesOf VX3_matchesOf CX3_171 (xd DX3_mostGainOf rfl) rfl rfl rfl ⟨by decide, rfl⟩ ⟨by decide, by decide⟩ (by decide) (Nat.le_of_ble_eq_true rfl) (by decide) rfl ?_
  rintro z9 h9 ⟨q1, q2⟩
  rw [q1, q2]
  clear q1 q2 z9 h9
  refine x_imul 41 (xd DX3_mostGainOf rfl) rfl ?_
  refine x_iload_n 42 (xd DX3_mostGainOf rfl) rfl rfl ?_
  refine x_Si 45 (pX8_entryNibbles m) FX8_entryNibbles VX8_entryNibbles CX3_168 (xd DX3_mostGainOf rfl) rfl rfl (by decide) (Nat.le_of_ble_eq_true rfl) (by decide) rfl ?_
  rintro z9 h9 ⟨q1, q2⟩
  rw [q1, q2]
  clear q1 q2 z9 h9
  refine x_isub 46 (xd DX3_mostGainOf rfl) rfl ?_
  refine x_ri (xd DX3_mostGainOf rfl) rfl ?_
  exact ⟨o1, tk, by rw [e4], mostRg hs.2.1 hs.2.2.1 (by rw [e4]; omega)⟩
end
section
/-! Choice -/
theorem LY.off {S : Nat → Prop} {h xg : XH} (hO : Off S h xg) (hs : ∀ c, (c ≤ 33 ∨ (192 ≤ c ∧ c ≤ 244) ∨ (249 ≤ c ∧ c ≤ 253)) → ¬ S c) (hP : PW h) (hS : SW h 8) (hL : LY h) : LY xg := by
  have kb : KeepB S := fun c q => hs c (by omega)
  obtain ⟨⟨k, k1, k2, k3, k4⟩, l1, l2, l3, l4, l5, l6, l7, l8⟩ := hL
  obtain ⟨hK, -⟩ := FB_PK hS.1 l4
  have hP1 := hP.1
  have hS1 := hS.1
  have e4 : xg 4 = h 4 := hO 4 (hs 4 (by omega))
  have e8 : xg 8 = h 8 := hO 8 (hs 8 (by omega))
  have e192 : xg 192 = h 192 := hO 192 (hs _ (by omega))
  have e193 : xg 193 = h 193 := hO 193 (hs _ (by omega))
  have e243 : xg 243 = h 243 := hO 243 (hs _ (by omega))
  have e244 : xg 244 = h 244 := hO 244 (hs _ (by omega))
  have e249 : xg 249 = h 249 := hO 249 (hs _ (by omega))
  have e250 : xg 250 = h 250 := hO 250 (hs _ (by omega))
  have e251 : xg 251 = h 251 := hO 251 (hs _ (by omega))
  have e252 : xg 252 = h 252 := hO 252 (hs _ (by omega))
  have e253 : xg 253 = h 253 := hO 253 (hs _ (by omega))
  have cs : ∀ i : Nat, (i : Int) ≤ h 4 3 → csN xg i = csN h i := fun i q => csN_off hO kb (hs _ (by omega)) (h 4 3).toNat (fun x q => by have := hK x (by omega) (by omega); omega) i (by omega)
  refine ⟨⟨k, k1, by rw [e192]; exact k2, by rw [e8]; exact k3, ?_⟩, by rw [e192, e4, e8]; exact l1, by rw [e4, e193]; exact l2, by rw [e243, e4]; exact l3, ?_, by rw [e243, e4]; exact l5, by rw [e192, e4, cs _ (by omega)]; exact l6, ?_, ?_⟩
  · intro j a b
    rw [e4] at b
    rw [e193, k4 j a b]
    unfold rchF Lead
    rw [hO 5 (kb 5 (by omega)), e4, hO 7 (kb 7 (by omega))]
  · intro j a b
    rw [e4] at b
    have erow : xg (195 + j.toNat) = h (195 + j.toNat) := hO _ (hs _ (by omega))
    rw [e8, e243, e244, erow, bst_off hO kb _ (by omega)]
    obtain ⟨q1, q2, q3⟩ := l4 j a b
    refine ⟨q1, q2, fun p a b => ?_⟩
    rw [shr_off hO kb _ (by omega)]
    exact q3 p a b
  · intro j q
    rw [e4] at q
    have := l7 j q
    unfold PF at this ⊢
    rw [cs (j + 1) (by omega), cs j (by omega), e249, e250, e251, e252]
    exact this
  · intro j hj aj t t0 t1
    rw [e4] at hj
    rw [e251] at aj ⊢
    have hx := (head_facts (l7 j (by omega)) aj).2.2.1
    have k9 := hK j (by omega) (by omega)
    have en : h 249 j < 0 ∨ (h 249 j).toNat < 8 := by omega
    have ew : wid xg j = wid h j := by
      unfold wid
      rw [e249, hO 5 (kb 5 (by omega))]
      rcases en with q | q
      · rw [if_pos q, if_pos q]
      · rw [hO (10 + 3 * (h 249 j).toNat) (kb _ (by omega))]
    have eb : nib xg j t = nib h j t := by
      unfold nib
      rw [e249, hO 5 (kb 5 (by omega)), hO 6 (kb 6 (by omega)), e251]
      rcases en with q | q
      · rw [if_pos q, if_pos q]
      · rw [hO (10 + 3 * (h 249 j).toNat) (kb _ (by omega))]
    rw [ew] at t1
    rw [eb, e253]
    exact l8 j hj aj t t0 t1
def STr (x : Nat) : Prop := x = 254 ∨ SGa x
def SqR (h : XH) (i m : Int) : Prop := (0 ≤ i ∧ i < h 4 3) ∧ 2 ≤ m ∧ m ≤ h 193 i
theorem SqR.ok {h : XH} (hL : LY h) {i m : Int} (hm : m ≤ 4) (hs : SqR h i m) : SqOk h i m := by
  have hr9 := hL.hr
  obtain ⟨⟨k, k1, k2, k3, k4⟩, -⟩ := hL
  have := (rch_seq k4 hr9 m.toNat i hs.1.1 hs.1.2 (by have := hs.2.1; omega) (by omega)).mp (by have := hs.2.1; have := hs.2.2; omega)
  rw [Int.toNat_of_nonneg (by have := hs.2.1; omega)] at this
  exact ⟨hs.1.1, hs.2.1, hm, this.1, fun x a b => (this.2.2 x a b).1⟩
def GainIs (h : XH) (i m z g : Int) : Prop := ∃ h' : XH, Off STr h h' ∧ Took h' 246 h i m z ∧ TrEq h' (h' 245) 0 ∧ g = h 192 13 - h' 245 0 - (1 + 2 * m)
def MostIs (h : XH) (i m z g : Int) : Prop := ∃ h' : XH, Off STr h h' ∧ Took h' 246 h i m z ∧ g = (2 * m - kRef (h' 246 3)) * cntR (fun j => Mt h' 246 j) 0 (h 4 3).toNat - (1 + 2 * m)
theorem Took.of {g h h0 : XH} {c : Nat} {i m z : Int} (ht : Took g c h i m z) (h5 : h 5 = h0 5) (h6 : h 6 = h0 6) : Took g c h0 i m z := by
  unfold Took at *
  rw [h5, h6] at ht
  exact ht
/-- the search through the instructions, of m letters and the hole z -/
noncomputable def scI (sq : Int → Int → Prop) (G : Int → Int → Int → Int) (m z : Int) : Nat → (Int × Int × Int × Int) → (Int × Int × Int × Int)
  | 0, s => s
  | i + 1, s => pik (sq i m ∧ (scI sq G m z i s).1 < G i m z) (G i m z, (i : Int), m, z) (scI sq G m z i s)
noncomputable def scH (sq : Int → Int → Prop) (G : Int → Int → Int → Int) (N : Nat) (m : Int) : Nat → (Int × Int × Int × Int) → (Int × Int × Int × Int)
  | 0, s => s
  | d + 1, s => scI sq G m ((d : Int) - 1) N (scH sq G N m d s)
noncomputable def scM (sq : Int → Int → Prop) (G : Int → Int → Int → Int) (N : Nat) : Nat → (Int × Int × Int × Int) → (Int × Int × Int × Int)
  | 0, s => s
  | d + 1, s => scH sq G N ((d : Int) + 2) (d + 3) (scM sq G N d s)
def F4 (g : XH) : Int × Int × Int × Int := (g 254 5, g 254 2, g 254 3, g 254 4)
theorem F4.off {S : Nat → Prop} {h xg : XH} (hO : Off S h xg) (hs : ¬ S 254) : F4 xg = F4 h := by
  unfold F4
  rw [hO 254 hs]
theorem F4.set {xg : XH} {a b c d : Int} : F4 (hset (hset (hset (hset xg 254 5 a) 254 2 b) 254 3 c) 254 4 d) = (a, b, c, d) := by
  unfold F4 hset
  simp
set_option maxRecDepth 100000 in
set_option maxHeartbeats 4000000 in
theorem pX0_tryAll {K : XK} {n : Nat} {h : XH} (m z : Int) (Gf : Int → Int → Int → Int) (hP : PW h) (hS : SW h 8) (hL : LY h) (hm : 2 ≤ m ∧ m ≤ 4) (hz : -1 ≤ z ∧ z < m) (hG : ∀ i g, SqR h i m → GainIs h i m z g → g = Gf i m z) (hM : ∀ i g, SqR h i m → MostIs h i m z g → Gf i m z ≤ g) (hg0 : 0 ≤ h 254 5 ∧ h 254 5 ≤ 192) : MV K mX0_tryAll 5 n [vr 254, vi m, vi z] h (fun h' => Off STr h h' ∧ F4 h' = scI (SqR h) Gf m z (h 4 3).toNat (F4 h) ∧ 0 ≤ h' 254 5 ∧ h' 254 5 ≤ 192) := by
  refine xMeth FX0_tryAll (Nat.le_of_ble_eq_true rfl) ?_
  have hP1 := hP.1
  have h192 : 0 ≤ h 192 13 ∧ h 192 13 ≤ 192 := by
    obtain ⟨K1, -⟩ := FB_PK hS.1 hL.2.2.2.2.1
    rw [hL.2.2.2.2.2.2.1]
    have := (csN_rg hP hS K1 (h 4 3).toNat (by omega)).2.2.2
    omega
  have loop : ∀ (m1 : Nat) (xi : Nat) (xg : XH), (xi : Int) ≤ h 4 3 → h 4 3 - xi < (m1 : Int) → Off STr h xg → F4 xg = scI (SqR h) Gf m z xi (F4 h) → (0 ≤ xg 254 5 ∧ xg 254 5 ≤ 192) → WI K mX0_tryAll 5 n (qV n fun h' => Off STr h h' ∧ F4 h' = scI (SqR h) Gf m z (h 4 3).toNat (F4 h) ∧ 0 ≤ h' 254 5 ∧ h' 254 5 ≤ 192) 2 [(0, vr 254), (1, vi m), (2, vi z), (3, vi (xi : Int))] [] xg := by
    intro m1
    induction m1 with
    | zero => intro xi xg a b; exact absurd b (by omega)
    | succ m1 ih =>
      intro xi xg h0 hm1 hO hF hg
      have e4 : xg 4 = h 4 := hO 4 (by unfold STr SGa S3; omega)
      have e43 : xg 4 3 = h 4 3 := by rw [e4]
      have e5 : xg 5 = h 5 := hO 5 (by unfold STr SGa S3; omega)
      have e6 : xg 6 = h 6 := hO 6 (by unfold STr SGa S3; omega)
      have e193 : xg 193 = h 193 := hO 193 (by unfold STr SGa S3; omega)
      have Pg : PW xg := hP.off hO (by unfold STr SGa S3; omega) (by unfold STr SGa S3; omega) (by unfold STr SGa S3; omega) (by unfold STr SGa S3; omega)
      have Lg : LY xg := hL.off hO (fun c q => by unfold STr SGa S3; omega) hP hS
      have sqg : SqR h (xi : Int) m → SqOk xg (xi : Int) m := fun q => by
        have := q.ok hL hm.2
        unfold SqOk at *
        rw [e4, e5]
        exact this
      refine x_iload_n 3 (xd DX0_tryAll rfl) rfl rfl ?_
      refine x_aload_n 4 (xd DX0_tryAll rfl) rfl rfl ?_
      refine x_gr 7 _ LX0_9 (xd DX0_tryAll rfl) rfl rfl ⟨by decide, by decide⟩ (by decide) rfl rfl ?_
      refine x_gr 10 _ LX0_32 (xd DX0_tryAll rfl) rfl rfl ⟨by decide, by decide⟩ (by decide) rfl rfl ?_
      refine x_gi 13 3 rfl LX0_38 (xd DX0_tryAll rfl) rfl ⟨Or.inr ⟨rfl, by decide⟩, by decide⟩ rfl ?_
      refine x_icmp_ge 16 96 (xd DX0_tryAll rfl) rfl (by omega) (by omega) rfl (fun c13 => ?_) (fun c13 => ?_)
      · refine x_rv (xd DX0_tryAll rfl) rfl ?_
        exact ⟨hO, by rw [hF, show (h 4 3).toNat = xi by omega], hg⟩
      · refine x_aload_n 17 (xd DX0_tryAll rfl) rfl rfl ?_
        refine x_gr 20 _ LX0_9 (xd DX0_tryAll rfl) rfl rfl ⟨by decide, by decide⟩ (by decide) rfl rfl ?_
        refine x_iload_n 21 (xd DX0_tryAll rfl) rfl rfl ?_
        refine x_iload_n 22 (xd DX0_tryAll rfl) rfl rfl ?_
        refine x_Vi 25 (pX3_isSequence (xi : Int) m Pg (by omega) (by omega) (by rw [e4, e193]; exact hL.hr)) FX3_isSequence VX3_isSequence CX0_43 (xd DX0_tryAll rfl) rfl rfl rfl ⟨by decide, rfl⟩ ⟨by decide, by decide⟩ (by decide) (Nat.le_of_ble_eq_true rfl) (by decide) rfl ?_
        rintro z9 h9 ⟨q1, q2⟩
        rw [q1, q2]
        clear q1 q2 z9 h9
        rw [show (((0 ≤ (xi : Int) ∧ (xi : Int) < xg 4 3) ∧ 2 ≤ m ∧ m ≤ xg 193 (xi : Int)) = SqR h (xi : Int) m) by unfold SqR; rw [e4, e193]]
        refine x_ifp_eq 28 90 (xd DX0_tryAll rfl) rfl rfl (fun c25 => ?_) (fun c25 => ?_)
        · refine x_iinc 93 (L' := [(0, _), (1, _), (2, _), (3, _)]) (xd DX0_tryAll rfl) rfl (by decide) rfl rfl rfl ?_
          refine x_goto 2 (xd DX0_tryAll rfl) rfl ?_
          first
            | (refine ih (xi + 1) _ (by omega) (by omega) ((((O3.tr (Off.set (by unfold STr; omega))).tr (Off.set (by unfold STr; omega))).tr (Off.set (by unfold STr; omega))).tr (Off.set (by unfold STr; omega))) ?_ ?_
               · rw [F4.set]
                 unfold scI
                 rw [← hF, pik_t ⟨c25, by show xg 254 5 < _; omega⟩]
               · rw [hset_i (by decide), hset_i (by decide), hset_i (by decide), hset_s]; omega)
            | (refine ih (xi + 1) _ (by omega) (by omega) O3 ?_ ?_
               · unfold scI
                 rw [← hF, pik_f (fun q => by have : xg 254 5 < _ := q.2; omega)]
                 exact f3
               · rw [g3]; exact hg)
            | (refine ih (xi + 1) _ (by omega) (by omega) O2 ?_ ?_
               · unfold scI
                 rw [← hF, pik_f (fun q => by have : xg 254 5 < _ := q.2; omega)]
                 exact f2
               · rw [g2]; exact hg)
            | (refine ih (xi + 1) _ (by omega) (by omega) hO ?_ hg
               unfold scI
               rw [← hF, pik_f (fun q => c25 q.1)])
        · refine x_aload_n 29 (xd DX0_tryAll rfl) rfl rfl ?_
          refine x_gr 32 _ LX0_9 (xd DX0_tryAll rfl) rfl rfl ⟨by decide, by decide⟩ (by decide) rfl rfl ?_
          refine x_iload_n 33 (xd DX0_tryAll rfl) rfl rfl ?_
          refine x_iload_n 34 (xd DX0_tryAll rfl) rfl rfl ?_
          refine x_iload_n 35 (xd DX0_tryAll rfl) rfl rfl ?_
          refine x_Vi 38 (pX3_mostGainOf (xi : Int) m z Pg Lg (sqg c25) hz) FX3_mostGainOf VX3_mostGainOf CX0_47 (xd DX0_tryAll rfl) rfl rfl rfl ⟨by decide, rfl⟩ ⟨by decide, by decide⟩ (by decide) (Nat.le_of_ble_eq_true rfl) (by decide) rfl ?_
          rintro zm h2 ⟨o2, t2, rfl, rz⟩
          have O2 : Off STr h h2 := hO.tr (o2.mono (fun x q => Or.inr (Or.inr q)))
          have ec9 : (2 * m - kRef (h2 246 3)) * cntR (fun j => Mt h2 246 j) 0 (xg 4 3).toNat = (2 * m - kRef (h2 246 3)) * cntR (fun j => Mt h2 246 j) 0 (h 4 3).toNat := by rw [e4]
          rw [ec9] at rz ⊢
          have hmost := hM (xi : Int) _ c25 ⟨h2, O2, t2.of e5 e6, rfl⟩
          have f2 : F4 h2 = F4 xg := F4.off o2 (by unfold S3; omega)
          have g2 : h2 254 = xg 254 := o2 254 (by unfold S3; omega)
          refine x_aload_n 39 (xd DX0_tryAll rfl) rfl rfl ?_
          refine x_gi 42 5 rfl LX0_19 (xd DX0_tryAll rfl) rfl ⟨Or.inr ⟨rfl, by decide⟩, by decide⟩ rfl ?_
          rw [g2]
          refine x_icmp_gt 45 48 (xd DX0_tryAll rfl) rfl (by omega) (by omega) rfl (fun c42 => ?_) (fun c42 => ?_)
          · have P2 : PW h2 := hP.off O2 (by unfold STr SGa S3; omega) (by unfold STr SGa S3; omega) (by unfold STr SGa S3; omega) (by unfold STr SGa S3; omega)
            have L2 : LY h2 := hL.off O2 (fun c q => by unfold STr SGa S3; omega) hP hS
            have e52 : h2 5 = h 5 := O2 5 (by unfold STr SGa S3; omega)
            have e62 : h2 6 = h 6 := O2 6 (by unfold STr SGa S3; omega)
            have sq2 : SqR h (xi : Int) m → SqOk h2 (xi : Int) m := fun q => by
              have := q.ok hL hm.2
              unfold SqOk at *
              rw [O2 4 (by unfold STr SGa S3; omega), e52]
              exact this
            refine x_aload_n 49 (xd DX0_tryAll rfl) rfl rfl ?_
            refine x_gr 52 _ LX0_9 (xd DX0_tryAll rfl) rfl rfl ⟨by decide, by decide⟩ (by decide) rfl rfl ?_
            refine x_iload_n 53 (xd DX0_tryAll rfl) rfl rfl ?_
            refine x_iload_n 54 (xd DX0_tryAll rfl) rfl rfl ?_
            refine x_iload_n 55 (xd DX0_tryAll rfl) rfl rfl ?_
            refine x_Vi 58 (pX3_gainOf (xi : Int) m z P2 L2 (sq2 c25) hz) FX3_gainOf VX3_gainOf CX0_51 (xd DX0_tryAll rfl) rfl rfl rfl ⟨by decide, rfl⟩ ⟨by decide, by decide⟩ (by decide) (Nat.le_of_ble_eq_true rfl) (by decide) rfl ?_
            rintro zg h3 ⟨o3, t3, tr3, rfl, b3⟩
            have O3 : Off STr h h3 := O2.tr (o3.mono (fun x q => Or.inr q))
            have b192 : h2 192 13 = h 192 13 := by rw [O2 192 (by unfold STr SGa S3; omega)]
            rw [b192]
            have hgain := hG (xi : Int) _ c25 ⟨h3, O3, t3.of e52 e62, tr3, rfl⟩
            have f3 : F4 h3 = F4 xg := by rw [F4.off o3 (by unfold SGa S3; omega), f2]
            have g3 : h3 254 = xg 254 := by rw [o3 254 (by unfold SGa S3; omega), g2]
            rw [hgain]
            refine x_istore 60 (L' := [(0, _), (1, _), (2, _), (3, _), (4, _)]) (xd DX0_tryAll rfl) (by decide) rfl rfl rfl ?_
            refine x_iload 62 (xd DX0_tryAll rfl) rfl rfl ?_
            refine x_aload_n 63 (xd DX0_tryAll rfl) rfl rfl ?_
            refine x_gi 66 5 rfl LX0_19 (xd DX0_tryAll rfl) rfl ⟨Or.inr ⟨rfl, by decide⟩, by decide⟩ rfl ?_
            rw [g3]
            refine x_icmp_le 69 90 (xd DX0_tryAll rfl) rfl (by omega) (by omega) rfl (fun c66 => ?_) (fun c66 => ?_)
            · refine x_iinc 93 (L' := [(0, _), (1, _), (2, _), (3, _), (4, _)]) (xd DX0_tryAll rfl) rfl (by decide) rfl rfl rfl ?_
              refine x_goto 2 (xd DX0_tryAll rfl) rfl ?_
              refine WX.locals (L' := [(0, _), (1, _), (2, _), (3, _)]) (fun q hq => List.mem_append_left _ hq) ?_
              first
                | (refine ih (xi + 1) _ (by omega) (by omega) ((((O3.tr (Off.set (by unfold STr; omega))).tr (Off.set (by unfold STr; omega))).tr (Off.set (by unfold STr; omega))).tr (Off.set (by unfold STr; omega))) ?_ ?_
                   · rw [F4.set]
                     unfold scI
                     rw [← hF, pik_t ⟨c25, by show xg 254 5 < _; omega⟩]
                   · rw [hset_i (by decide), hset_i (by decide), hset_i (by decide), hset_s]; omega)
                | (refine ih (xi + 1) _ (by omega) (by omega) O3 ?_ ?_
                   · unfold scI
                     rw [← hF, pik_f (fun q => by have : xg 254 5 < _ := q.2; omega)]
                     exact f3
                   · rw [g3]; exact hg)
                | (refine ih (xi + 1) _ (by omega) (by omega) O2 ?_ ?_
                   · unfold scI
                     rw [← hF, pik_f (fun q => by have : xg 254 5 < _ := q.2; omega)]
                     exact f2
                   · rw [g2]; exact hg)
                | (refine ih (xi + 1) _ (by omega) (by omega) hO ?_ hg
                   unfold scI
                   rw [← hF, pik_f (fun q => c25 q.1)])
            · refine x_aload_n 70 (xd DX0_tryAll rfl) rfl rfl ?_
              refine x_iload 72 (xd DX0_tryAll rfl) rfl rfl ?_
              refine x_pi 75 5 rfl LX0_19 (xd DX0_tryAll rfl) rfl rfl ⟨Or.inr ⟨rfl, by decide⟩, by decide⟩ rfl ?_
              refine x_aload_n 76 (xd DX0_tryAll rfl) rfl rfl ?_
              refine x_iload_n 77 (xd DX0_tryAll rfl) rfl rfl ?_
              refine x_pi 80 2 rfl LX0_54 (xd DX0_tryAll rfl) rfl rfl ⟨Or.inr ⟨rfl, by decide⟩, by decide⟩ rfl ?_
              refine x_aload_n 81 (xd DX0_tryAll rfl) rfl rfl ?_
              refine x_iload_n 82 (xd DX0_tryAll rfl) rfl rfl ?_
              refine x_pi 85 3 rfl LX0_57 (xd DX0_tryAll rfl) rfl rfl ⟨Or.inr ⟨rfl, by decide⟩, by decide⟩ rfl ?_
              refine x_aload_n 86 (xd DX0_tryAll rfl) rfl rfl ?_
              refine x_iload_n 87 (xd DX0_tryAll rfl) rfl rfl ?_
              refine x_pi 90 4 rfl LX0_60 (xd DX0_tryAll rfl) rfl rfl ⟨Or.inr ⟨rfl, by decide⟩, by decide⟩ rfl ?_
              refine x_iinc 93 (L' := [(0, _), (1, _), (2, _), (3, _), (4, _)]) (xd DX0_tryAll rfl) rfl (by decide) rfl rfl rfl ?_
              refine x_goto 2 (xd DX0_tryAll rfl) rfl ?_
              refine WX.locals (L' := [(0, _), (1, _), (2, _), (3, _)]) (fun q hq => List.mem_append_left _ hq) ?_
              first
                | (refine ih (xi + 1) _ (by omega) (by omega) ((((O3.tr (Off.set (by unfold STr; omega))).tr (Off.set (by unfold STr; omega))).tr (Off.set (by unfold STr; omega))).tr (Off.set (by unfold STr; omega))) ?_ ?_
                   · rw [F4.set]
                     unfold scI
                     rw [← hF, pik_t ⟨c25, by show xg 254 5 < _; omega⟩]
                   · rw [hset_i (by decide), hset_i (by decide), hset_i (by decide), hset_s]; omega)
                | (refine ih (xi + 1) _ (by omega) (by omega) O3 ?_ ?_
                   · unfold scI
                     rw [← hF, pik_f (fun q => by have : xg 254 5 < _ := q.2; omega)]
                     exact f3
                   · rw [g3]; exact hg)
                | (refine ih (xi + 1) _ (by omega) (by omega) O2 ?_ ?_
                   · unfold scI
                     rw [← hF, pik_f (fun q => by have : xg 254 5 < _ := q.2; omega)]
                     exact f2
                   · rw [g2]; exact hg)
                | (refine ih (xi + 1) _ (by omega) (by omega) hO ?_ hg
                   unfold scI
                   rw [← hF, pik_f (fun q => c25 q.1)])
          · refine x_goto 90 (xd DX0_tryAll rfl) rfl ?_
            refine x_iinc 93 (L' := [(0, _), (1, _), (2, _), (3, _)]) (xd DX0_tryAll rfl) rfl (by decide) rfl rfl rfl ?_
            refine x_goto 2 (xd DX0_tryAll rfl) rfl ?_
            first
              | (refine ih (xi + 1) _ (by omega) (by omega) ((((O3.tr (Off.set (by unfold STr; omega))).tr (Off.set (by unfold STr; omega))).tr (Off.set (by unfold STr; omega))).tr (Off.set (by unfold STr; omega))) ?_ ?_
                 · rw [F4.set]
                   unfold scI
                   rw [← hF, pik_t ⟨c25, by show xg 254 5 < _; omega⟩]
                 · rw [hset_i (by decide), hset_i (by decide), hset_i (by decide), hset_s]; omega)
              | (refine ih (xi + 1) _ (by omega) (by omega) O3 ?_ ?_
                 · unfold scI
                   rw [← hF, pik_f (fun q => by have : xg 254 5 < _ := q.2; omega)]
                   exact f3
                 · rw [g3]; exact hg)
              | (refine ih (xi + 1) _ (by omega) (by omega) O2 ?_ ?_
                 · unfold scI
                   rw [← hF, pik_f (fun q => by have : xg 254 5 < _ := q.2; omega)]
                   exact f2
                 · rw [g2]; exact hg)
              | (refine ih (xi + 1) _ (by omega) (by omega) hO ?_ hg
                 unfold scI
                 rw [← hF, pik_f (fun q => c25 q.1)])
  refine x_iconst 1 (xd DX0_tryAll rfl) rfl ?_
  refine x_istore_n 2 (L' := [(0, _), (1, _), (2, _), (3, _)]) (xd DX0_tryAll rfl) (by decide) rfl rfl rfl ?_
  exact loop 100 0 h (by omega) (by omega) Off.rf rfl hg0
end
section
/-! Choice.find -/
theorem GainIs.of {h xg : XH} {i m z g : Int} (hO : Off STr h xg) (hg : GainIs xg i m z g) : GainIs h i m z g := by
  obtain ⟨h', a, b, c, d⟩ := hg
  exact ⟨h', hO.tr a, b.of (hO 5 (by unfold STr SGa S3; omega)) (hO 6 (by unfold STr SGa S3; omega)), c, by rw [d, hO 192 (by unfold STr SGa S3; omega)]⟩
theorem MostIs.of {h xg : XH} {i m z g : Int} (hO : Off STr h xg) (hg : MostIs xg i m z g) : MostIs h i m z g := by
  obtain ⟨h', a, b, d⟩ := hg
  exact ⟨h', hO.tr a, b.of (hO 5 (by unfold STr SGa S3; omega)) (hO 6 (by unfold STr SGa S3; omega)), by rw [d, hO 4 (by unfold STr SGa S3; omega)]⟩
theorem SqR.off {h xg : XH} (hO : Off STr h xg) : SqR xg = SqR h := by
  funext i m
  unfold SqR
  rw [hO 4 (by unfold STr SGa S3; omega), hO 193 (by unfold STr SGa S3; omega)]
set_option maxRecDepth 100000 in
set_option maxHeartbeats 4000000 in
theorem pX0_find {K : XK} {n : Nat} {h : XH} (Gf : Int → Int → Int → Int) (hP : PW h) (hS : SW h 8) (hL : LY h) (hG : ∀ i m z g, (2 ≤ m ∧ m ≤ 4) → (-1 ≤ z ∧ z < m) → SqR h i m → GainIs h i m z g → g = Gf i m z) (hM : ∀ i m z g, (2 ≤ m ∧ m ≤ 4) → (-1 ≤ z ∧ z < m) → SqR h i m → MostIs h i m z g → Gf i m z ≤ g) : MI K mX0_find 6 n [vr 254] h (fun zr h' => Off STr h h' ∧ ((8 ≤ h 8 1 ∧ zr = 0) ∨ (h 8 1 < 8 ∧ zr = xp (0 < h' 254 5) ∧ F4 h' = scM (SqR h) Gf (h 4 3).toNat 3 (0, h 254 2, h 254 3, h 254 4)))) := by
  refine xMeth FX0_find (Nat.le_of_ble_eq_true rfl) ?_
  have hS1 := hS.1
  have loop : h 8 1 < 8 → ∀ (m1 : Nat) (xd1 : Nat) (xg : XH), xd1 ≤ 3 → 3 - xd1 < m1 → Off STr h xg → F4 xg = scM (SqR h) Gf (h 4 3).toNat xd1 (0, h 254 2, h 254 3, h 254 4) → (0 ≤ xg 254 5 ∧ xg 254 5 ≤ 192) → WI K mX0_find 6 n (qI n fun zr h' => Off STr h h' ∧ ((8 ≤ h 8 1 ∧ zr = 0) ∨ (h 8 1 < 8 ∧ zr = xp (0 < h' 254 5) ∧ F4 h' = scM (SqR h) Gf (h 4 3).toNat 3 (0, h 254 2, h 254 3, h 254 4)))) 21 [(0, vr 254), (1, vi ((xd1 : Int) + 2))] [] xg := by
    intro c14 m1
    induction m1 with
    | zero => intro xd1 xg a b; exact absurd b (by omega)
    | succ m1 ih =>
      intro xd1 xg h0 hm1 hO hF hg
      have loop2 : xd1 ≤ 2 → ∀ (m2 : Nat) (xe1 : Nat) (xg : XH), xe1 ≤ xd1 + 3 → xd1 + 3 - xe1 < m2 → Off STr h xg → F4 xg = scH (SqR h) Gf (h 4 3).toNat ((xd1 : Int) + 2) xe1 (scM (SqR h) Gf (h 4 3).toNat xd1 (0, h 254 2, h 254 3, h 254 4)) → (0 ≤ xg 254 5 ∧ xg 254 5 ≤ 192) → WI K mX0_find 6 n (qI n fun zr h' => Off STr h h' ∧ ((8 ≤ h 8 1 ∧ zr = 0) ∨ (h 8 1 < 8 ∧ zr = xp (0 < h' 254 5) ∧ F4 h' = scM (SqR h) Gf (h 4 3).toNat 3 (0, h 254 2, h 254 3, h 254 4)))) 28 [(0, vr 254), (1, vi ((xd1 : Int) + 2)), (2, vi ((xe1 : Int) - 1))] [] xg := by
        intro hd1 m2
        induction m2 with
        | zero => intro xe1 xg a b; exact absurd b (by omega)
        | succ m2 ih2 =>
          intro xe1 xg h0 hm2 hO hF hg
          have e4 : xg 4 = h 4 := hO 4 (by unfold STr SGa S3; omega)
          refine x_iload_n 29 (xd DX0_find rfl) rfl rfl ?_
          refine x_iload_n 30 (xd DX0_find rfl) rfl rfl ?_
          refine x_icmp_ge 33 45 (xd DX0_find rfl) rfl (by omega) (by omega) rfl (fun c30 => ?_) (fun c30 => ?_)
          · refine x_iinc 48 (L' := [(0, _), (1, _), (2, _)]) (xd DX0_find rfl) rfl (by decide) rfl rfl rfl ?_
            refine x_goto 21 (xd DX0_find rfl) rfl ?_
            refine WX.locals (L' := [(0, _), (1, _)]) (fun q hq => List.mem_append_left _ hq) ?_
            rw [show (xd1 : Int) + 2 + 1 = ((xd1 + 1 : Nat) : Int) + 2 by omega]
            refine ih (xd1 + 1) _ (by omega) (by omega) hO ?_ hg
            unfold scM
            rw [hF, show xe1 = xd1 + 3 by omega]
          · refine x_aload_n 34 (xd DX0_find rfl) rfl rfl ?_
            refine x_iload_n 35 (xd DX0_find rfl) rfl rfl ?_
            refine x_iload_n 36 (xd DX0_find rfl) rfl rfl ?_
            refine x_Vv 39 (pX0_tryAll ((xd1 : Int) + 2) ((xe1 : Int) - 1) Gf (hP.off hO (by unfold STr SGa S3; omega) (by unfold STr SGa S3; omega) (by unfold STr SGa S3; omega) (by unfold STr SGa S3; omega)) (hS.off hO (fun c q => by unfold STr SGa S3; omega)) (hL.off hO (fun c q => by unfold STr SGa S3; omega) hP hS) (by omega) (by omega) (fun i g a b => by rw [SqR.off hO] at a; exact hG i _ _ g (by omega) (by omega) a (b.of hO)) (fun i g a b => by rw [SqR.off hO] at a; exact hM i _ _ g (by omega) (by omega) a (b.of hO)) hg) FX0_tryAll VX0_tryAll CX0_28 (xd DX0_find rfl) rfl rfl rfl ⟨by decide, rfl⟩ ⟨by decide, by decide⟩ (by decide) (Nat.le_of_ble_eq_true rfl) (by decide) rfl ?_
            rintro xq ⟨oq, fq, gq⟩
            rw [SqR.off hO, e4] at fq
            refine x_iinc 42 (L' := [(0, _), (1, _), (2, _)]) (xd DX0_find rfl) rfl (by decide) rfl rfl rfl ?_
            refine x_goto 28 (xd DX0_find rfl) rfl ?_
            rw [show (xe1 : Int) - 1 + 1 = ((xe1 + 1 : Nat) : Int) - 1 by omega]
            refine ih2 (xe1 + 1) _ (by omega) (by omega) (hO.tr oq) ?_ gq
            unfold scH
            rw [← hF]
            exact fq
      refine x_iload_n 22 (xd DX0_find rfl) rfl rfl ?_
      refine x_iconst 23 (xd DX0_find rfl) rfl ?_
      refine x_icmp_gt 26 51 (xd DX0_find rfl) rfl (by omega) (by omega) rfl (fun c23 => ?_) (fun c23 => ?_)
      · refine x_aload_n 52 (xd DX0_find rfl) rfl rfl ?_
        refine x_gi 55 5 rfl LX0_19 (xd DX0_find rfl) rfl ⟨Or.inr ⟨rfl, by decide⟩, by decide⟩ rfl ?_
        refine x_if_le 58 62 (xd DX0_find rfl) rfl (by omega) rfl (fun c55 => ?_) (fun c55 => ?_)
        · refine x_iconst 63 (xd DX0_find rfl) rfl ?_
          refine x_rz (xd DX0_find rfl) rfl (by omega) ?_
          first
            | exact ⟨ocell.mono (fun x q => Or.inl q), Or.inl ⟨by omega, rfl⟩⟩
            | exact ⟨hO, Or.inr ⟨by omega, xp_t (by omega), by rw [hF, show xd1 = 3 by omega]⟩⟩
            | exact ⟨hO, Or.inr ⟨by omega, xp_f (by omega), by rw [hF, show xd1 = 3 by omega]⟩⟩
        · refine x_iconst 59 (xd DX0_find rfl) rfl ?_
          refine x_goto 63 (xd DX0_find rfl) rfl ?_
          refine x_rz (xd DX0_find rfl) rfl (by omega) ?_
          first
            | exact ⟨ocell.mono (fun x q => Or.inl q), Or.inl ⟨by omega, rfl⟩⟩
            | exact ⟨hO, Or.inr ⟨by omega, xp_t (by omega), by rw [hF, show xd1 = 3 by omega]⟩⟩
            | exact ⟨hO, Or.inr ⟨by omega, xp_f (by omega), by rw [hF, show xd1 = 3 by omega]⟩⟩
      · refine x_iconst 27 (xd DX0_find rfl) rfl ?_
        refine x_istore_n 28 (L' := [(0, _), (1, _), (2, _)]) (xd DX0_find rfl) (by decide) rfl rfl rfl ?_
        exact loop2 (by omega) 100 0 xg (by omega) (by omega) hO hF hg
  refine x_aload_n 1 (xd DX0_find rfl) rfl rfl ?_
  refine x_iconst 2 (xd DX0_find rfl) rfl ?_
  refine x_pi 5 5 rfl LX0_19 (xd DX0_find rfl) rfl rfl ⟨Or.inr ⟨rfl, by decide⟩, by decide⟩ rfl ?_
  refine x_aload_n 6 (xd DX0_find rfl) rfl rfl ?_
  refine x_gr 9 _ LX0_15 (xd DX0_find rfl) rfl rfl ⟨by decide, by decide⟩ (by decide) rfl rfl ?_
  refine x_gi 12 1 rfl LX0_23 (xd DX0_find rfl) rfl ⟨Or.inr ⟨rfl, by decide⟩, by decide⟩ rfl ?_
  rw [hset_c (d := 8) (by decide)]
  refine x_bipush 14 (xd DX0_find rfl) rfl rfl ?_
  refine x_icmp_lt 17 19 (xd DX0_find rfl) rfl (by omega) (by omega) rfl (fun c14 => ?_) (fun c14 => ?_)
  · refine x_iconst 20 (xd DX0_find rfl) rfl ?_
    refine x_istore_n 21 (L' := [(0, _), (1, _)]) (xd DX0_find rfl) (by decide) rfl rfl rfl ?_
    refine loop (by omega) 100 0 _ (by omega) (by omega) (ocell.mono (fun x q => Or.inl q)) ?_ (by rw [hset_s]; omega)
    unfold F4 scM
    rw [hset_s, hset_i (by decide), hset_i (by decide), hset_i (by decide)]
  · refine x_iconst 18 (xd DX0_find rfl) rfl ?_
    refine x_rz (xd DX0_find rfl) rfl (by omega) ?_
    first
      | exact ⟨ocell.mono (fun x q => Or.inl q), Or.inl ⟨by omega, rfl⟩⟩
      | exact ⟨hO, Or.inr ⟨by omega, xp_t (by omega), by rw [hF, show xd1 = 3 by omega]⟩⟩
      | exact ⟨hO, Or.inr ⟨by omega, xp_f (by omega), by rw [hF, show xd1 = 3 by omega]⟩⟩
end
section
/-! Run, the counters of Program -/
/-- the first of d places from i on, or -4 -/
noncomputable def fP (p : Nat → Prop) : Nat → Nat → Int
  | _, 0 => -4
  | i, d + 1 => pik (p i) (i : Int) (fP p (i + 1) d)
theorem fP_rg (p : Nat → Prop) : ∀ (d i : Nat), fP p i d = -4 ∨ ((i : Int) ≤ fP p i d ∧ fP p i d < i + d ∧ p (fP p i d).toNat)
  | 0, i => Or.inl rfl
  | d + 1, i => by
    unfold fP
    by_cases q : p i
    · rw [pik_t q, Int.toNat_natCast]; exact Or.inr ⟨Int.le_refl _, by omega, q⟩
    · rw [pik_f q]
      rcases fP_rg p d (i + 1) with z | z
      · exact Or.inl z
      · exact Or.inr ⟨by omega, by omega, z.2.2⟩
def tellH (h : XH) (v : Int) : XH := hset (hset h 257 (h 255 12) v) 255 12 (h 255 12 + 1)
def wkH (h : XH) (kd k : Int) : XH :=
  if kd = 0 then hset h 255 10 ((h 255 10 + k) % 65536) else if kd = 1 then hset h 255 10 ((h 255 10 * k) % 65536) else if kd = 2 then hset h 255 10 (xxor (h 255 10) k)
  else if kd = 3 then hset h 256 k (h 255 10) else if kd = 4 then hset h 255 10 (h 256 k) else if kd = 5 then hset h 255 10 ((h 255 10 + h 256 k) % 65536) else tellH h ((h 255 10 + k) % 65536)
noncomputable def adr (h : XH) (i : Int) : Int := pik (h 255 7 ≠ 0 ∧ 0 ≤ i ∧ i < h 4 3) (h 251 i) i
noncomputable def jmpP (h : XH) (i : Nat) : Prop := h 5 i = 9 ∧ adr h (h 6 i) = h 255 10
noncomputable def jmpH (h : XH) : XH := pik (0 ≤ fP (jmpP h) 0 (h 4 3).toNat) (hset h 255 9 (h 6 (fP (jmpP h) 0 (h 4 3).toNat))) (hset (hset h 255 8 1) 255 6 1)
noncomputable def trnH (h : XH) (kd t : Int) : XH :=
  if kd = 7 then hset h 255 9 t else if kd = 8 then hset h 255 9 (if h 255 10 = 0 then t else h 255 9) else if kd = 9 then hset h 255 10 (adr h t) else if kd = 10 then jmpH h else hset h 255 6 1
set_option maxRecDepth 100000 in
set_option maxHeartbeats 4000000 in
theorem pX5_end {K : XK} {n : Nat} {h : XH}  : MV K mX5_end 0 n [vr 255] h (fun h' => h' = hset h 255 5 0) := by
  refine xMeth FX5_end (Nat.le_of_ble_eq_true rfl) ?_
  refine x_aload_n 1 (xd DX5_end rfl) rfl rfl ?_
  refine x_iconst 2 (xd DX5_end rfl) rfl ?_
  refine x_pz 5 5 rfl LX5_29 (xd DX5_end rfl) rfl rfl ⟨Or.inr ⟨rfl, by decide⟩, by decide⟩ (by omega) rfl ?_
  refine x_rv (xd DX5_end rfl) rfl ?_
  exact rfl

set_option maxRecDepth 100000 in
set_option maxHeartbeats 4000000 in
theorem pX5_tellOut {K : XK} {n : Nat} {h : XH} (v : Int) (hc : 0 ≤ h 255 12 ∧ h 255 12 < 12) : MV K mX5_tellOut 0 n [vr 255, vi v] h (fun h' => h' = tellH h v) := by
  refine xMeth FX5_tellOut (Nat.le_of_ble_eq_true rfl) ?_
  refine x_aload_n 1 (xd DX5_tellOut rfl) rfl rfl ?_
  refine x_gi 4 12 rfl LX5_52 (xd DX5_tellOut rfl) rfl ⟨Or.inr ⟨rfl, by decide⟩, by decide⟩ rfl ?_
  refine x_bipush 6 (xd DX5_tellOut rfl) rfl rfl ?_
  refine x_icmp_ge 9 29 (xd DX5_tellOut rfl) rfl (by omega) (by omega) rfl (fun c6 => absurd c6 (by omega)) (fun _ => ?_)
  refine x_aload_n 10 (xd DX5_tellOut rfl) rfl rfl ?_
  refine x_gr 13 _ LX5_15 (xd DX5_tellOut rfl) rfl rfl ⟨by decide, by decide⟩ (by decide) rfl rfl ?_
  refine x_aload_n 14 (xd DX5_tellOut rfl) rfl rfl ?_
  refine x_gi 17 12 rfl LX5_52 (xd DX5_tellOut rfl) rfl ⟨Or.inr ⟨rfl, by decide⟩, by decide⟩ rfl ?_
  refine x_iload_n 18 (xd DX5_tellOut rfl) rfl rfl ?_
  refine x_iastore 19 (xd DX5_tellOut rfl) rfl ⟨Or.inr ⟨rfl, by decide⟩, by decide⟩ (by decide) (by omega) (by omega) rfl ?_
  refine x_aload_n 20 (xd DX5_tellOut rfl) rfl rfl ?_
  refine x_dupr 21 (xd DX5_tellOut rfl) rfl ?_
  refine x_gi 24 12 rfl LX5_52 (xd DX5_tellOut rfl) rfl ⟨Or.inr ⟨rfl, by decide⟩, by decide⟩ rfl ?_
  refine x_iconst 25 (xd DX5_tellOut rfl) rfl ?_
  refine x_iadd 26 (xd DX5_tellOut rfl) rfl ?_
  refine x_pi 29 12 rfl LX5_52 (xd DX5_tellOut rfl) rfl rfl ⟨Or.inr ⟨rfl, by decide⟩, by decide⟩ rfl ?_
  refine x_rv (xd DX5_tellOut rfl) rfl ?_
  unfold tellH
  rw [hset_c (d := 255) (by decide)]

set_option maxRecDepth 100000 in
set_option maxHeartbeats 4000000 in
theorem pX5_work {K : XK} {n : Nat} {h : XH} (kd k : Int) (hkd : 0 ≤ kd ∧ kd ≤ 6) (hk : 0 ≤ k ∧ k ≤ 9) (hc : kd = 6 → 0 ≤ h 255 12 ∧ h 255 12 < 12) : MV K mX5_work 1 n [vr 255, vi kd, vi k] h (fun h' => h' = wkH h kd k) := by
  refine xMeth FX5_work (Nat.le_of_ble_eq_true rfl) ?_
  have hk9 : kd = 0 ∨ kd = 1 ∨ kd = 2 ∨ kd = 3 ∨ kd = 4 ∨ kd = 5 ∨ kd = 6 := by omega
  refine x_iload_n 1 (xd DX5_work rfl) rfl rfl ?_
  rcases hk9 with e | e | e | e | e | e | e <;> subst e
  · refine x_tableIn 40 (xd DX5_work rfl) (by decide) (by decide) (by decide) rfl rfl ?_
    refine x_aload_n 41 (xd DX5_work rfl) rfl rfl ?_
    refine x_aload_n 42 (xd DX5_work rfl) rfl rfl ?_
    refine x_gi 45 10 rfl LX5_46 (xd DX5_work rfl) rfl ⟨Or.inr ⟨rfl, by decide⟩, by decide⟩ rfl ?_
    refine x_iload_n 46 (xd DX5_work rfl) rfl rfl ?_
    refine x_iadd 47 (xd DX5_work rfl) rfl ?_
    refine x_ldc 49 (xd DX5_work rfl) KX5_108 rfl ?_
    refine x_iand65535 50 (xd DX5_work rfl) rfl ?_
    refine x_pi 53 10 rfl LX5_46 (xd DX5_work rfl) rfl rfl ⟨Or.inr ⟨rfl, by decide⟩, by decide⟩ rfl ?_
    refine x_goto 145 (xd DX5_work rfl) rfl ?_
    refine x_rv (xd DX5_work rfl) rfl ?_
    unfold wkH
    rfl
  · refine x_tableIn 56 (xd DX5_work rfl) (by decide) (by decide) (by decide) rfl rfl ?_
    refine x_aload_n 57 (xd DX5_work rfl) rfl rfl ?_
    refine x_aload_n 58 (xd DX5_work rfl) rfl rfl ?_
    refine x_gi 61 10 rfl LX5_46 (xd DX5_work rfl) rfl ⟨Or.inr ⟨rfl, by decide⟩, by decide⟩ rfl ?_
    refine x_iload_n 62 (xd DX5_work rfl) rfl rfl ?_
    refine x_imul 63 (xd DX5_work rfl) rfl ?_
    refine x_ldc 65 (xd DX5_work rfl) KX5_108 rfl ?_
    refine x_iand65535 66 (xd DX5_work rfl) rfl ?_
    refine x_pi 69 10 rfl LX5_46 (xd DX5_work rfl) rfl rfl ⟨Or.inr ⟨rfl, by decide⟩, by decide⟩ rfl ?_
    refine x_goto 145 (xd DX5_work rfl) rfl ?_
    refine x_rv (xd DX5_work rfl) rfl ?_
    unfold wkH
    rfl
  · refine x_tableIn 72 (xd DX5_work rfl) (by decide) (by decide) (by decide) rfl rfl ?_
    refine x_aload_n 73 (xd DX5_work rfl) rfl rfl ?_
    refine x_aload_n 74 (xd DX5_work rfl) rfl rfl ?_
    refine x_gi 77 10 rfl LX5_46 (xd DX5_work rfl) rfl ⟨Or.inr ⟨rfl, by decide⟩, by decide⟩ rfl ?_
    refine x_iload_n 78 (xd DX5_work rfl) rfl rfl ?_
    refine x_ixor 79 (xd DX5_work rfl) rfl ?_
    refine x_pi 82 10 rfl LX5_46 (xd DX5_work rfl) rfl rfl ⟨Or.inr ⟨rfl, by decide⟩, by decide⟩ rfl ?_
    refine x_goto 145 (xd DX5_work rfl) rfl ?_
    refine x_rv (xd DX5_work rfl) rfl ?_
    unfold wkH
    rfl
  · refine x_tableIn 85 (xd DX5_work rfl) (by decide) (by decide) (by decide) rfl rfl ?_
    refine x_aload_n 86 (xd DX5_work rfl) rfl rfl ?_
    refine x_gr 89 _ LX5_9 (xd DX5_work rfl) rfl rfl ⟨by decide, by decide⟩ (by decide) rfl rfl ?_
    refine x_iload_n 90 (xd DX5_work rfl) rfl rfl ?_
    refine x_aload_n 91 (xd DX5_work rfl) rfl rfl ?_
    refine x_gi 94 10 rfl LX5_46 (xd DX5_work rfl) rfl ⟨Or.inr ⟨rfl, by decide⟩, by decide⟩ rfl ?_
    refine x_iastore 95 (xd DX5_work rfl) rfl ⟨Or.inr ⟨rfl, by decide⟩, by decide⟩ (by decide) (by omega) (by omega) rfl ?_
    refine x_goto 145 (xd DX5_work rfl) rfl ?_
    refine x_rv (xd DX5_work rfl) rfl ?_
    unfold wkH
    rfl
  · refine x_tableIn 98 (xd DX5_work rfl) (by decide) (by decide) (by decide) rfl rfl ?_
    refine x_aload_n 99 (xd DX5_work rfl) rfl rfl ?_
    refine x_aload_n 100 (xd DX5_work rfl) rfl rfl ?_
    refine x_gr 103 _ LX5_9 (xd DX5_work rfl) rfl rfl ⟨by decide, by decide⟩ (by decide) rfl rfl ?_
    refine x_iload_n 104 (xd DX5_work rfl) rfl rfl ?_
    refine x_iaload 105 (xd DX5_work rfl) rfl ⟨Or.inr ⟨rfl, by decide⟩, by decide⟩ (by decide) (by omega) (by omega) rfl ?_
    refine x_pi 108 10 rfl LX5_46 (xd DX5_work rfl) rfl rfl ⟨Or.inr ⟨rfl, by decide⟩, by decide⟩ rfl ?_
    refine x_goto 145 (xd DX5_work rfl) rfl ?_
    refine x_rv (xd DX5_work rfl) rfl ?_
    unfold wkH
    rfl
  · refine x_tableIn 111 (xd DX5_work rfl) (by decide) (by decide) (by decide) rfl rfl ?_
    refine x_aload_n 112 (xd DX5_work rfl) rfl rfl ?_
    refine x_aload_n 113 (xd DX5_work rfl) rfl rfl ?_
    refine x_gi 116 10 rfl LX5_46 (xd DX5_work rfl) rfl ⟨Or.inr ⟨rfl, by decide⟩, by decide⟩ rfl ?_
    refine x_aload_n 117 (xd DX5_work rfl) rfl rfl ?_
    refine x_gr 120 _ LX5_9 (xd DX5_work rfl) rfl rfl ⟨by decide, by decide⟩ (by decide) rfl rfl ?_
    refine x_iload_n 121 (xd DX5_work rfl) rfl rfl ?_
    refine x_iaload 122 (xd DX5_work rfl) rfl ⟨Or.inr ⟨rfl, by decide⟩, by decide⟩ (by decide) (by omega) (by omega) rfl ?_
    refine x_iadd 123 (xd DX5_work rfl) rfl ?_
    refine x_ldc 125 (xd DX5_work rfl) KX5_108 rfl ?_
    refine x_iand65535 126 (xd DX5_work rfl) rfl ?_
    refine x_pi 129 10 rfl LX5_46 (xd DX5_work rfl) rfl rfl ⟨Or.inr ⟨rfl, by decide⟩, by decide⟩ rfl ?_
    refine x_goto 145 (xd DX5_work rfl) rfl ?_
    refine x_rv (xd DX5_work rfl) rfl ?_
    unfold wkH
    rfl
  · refine x_tableOut 132 (xd DX5_work rfl) (by decide) (Or.inr (by decide)) rfl ?_
    refine x_aload_n 133 (xd DX5_work rfl) rfl rfl ?_
    refine x_aload_n 134 (xd DX5_work rfl) rfl rfl ?_
    refine x_gi 137 10 rfl LX5_46 (xd DX5_work rfl) rfl ⟨Or.inr ⟨rfl, by decide⟩, by decide⟩ rfl ?_
    refine x_iload_n 138 (xd DX5_work rfl) rfl rfl ?_
    refine x_iadd 139 (xd DX5_work rfl) rfl ?_
    refine x_ldc 141 (xd DX5_work rfl) KX5_108 rfl ?_
    refine x_iand65535 142 (xd DX5_work rfl) rfl ?_
    refine x_Vv 145 (pX5_tellOut _ (hc rfl)) FX5_tellOut VX5_tellOut CX5_109 (xd DX5_work rfl) rfl rfl rfl ⟨by decide, rfl⟩ ⟨by decide, by decide⟩ (by decide) (Nat.le_of_ble_eq_true rfl) (by decide) rfl ?_
    rintro h9 q2
    rw [q2]
    clear q2 h9
    refine x_rv (xd DX5_work rfl) rfl ?_
    unfold wkH
    rfl


set_option maxRecDepth 100000 in
set_option maxHeartbeats 4000000 in
theorem pX5_addressOf {K : XK} {n : Nat} {h : XH} (i : Int) (hP : PW h) (hi : xrg i) (hq : h 255 7 = 0 ∨ h 255 7 = 1) : MI K mX5_addressOf 1 n [vr 255, vi i] h (fun z h' => z = adr h i ∧ h' = h) := by
  refine xMeth FX5_addressOf (Nat.le_of_ble_eq_true rfl) ?_
  have hP1 := hP.1
  refine x_aload_n 1 (xd DX5_addressOf rfl) rfl rfl ?_
  refine x_gz 4 7 rfl LX5_36 (xd DX5_addressOf rfl) rfl ⟨Or.inr ⟨rfl, by decide⟩, by decide⟩ rfl ?_
  refine x_if_eq 7 30 (xd DX5_addressOf rfl) rfl (by omega) rfl (fun c4 => ?_) (fun c4 => ?_)
  · refine x_iload_n 31 (xd DX5_addressOf rfl) rfl rfl ?_
    refine x_ri (xd DX5_addressOf rfl) rfl ?_
    first | exact ⟨(pik_t ⟨c4, c15.1, c15.2⟩ _ _).symm, rfl⟩ | exact ⟨(pik_f (fun q => c15 q.2) _ _).symm, rfl⟩ | exact ⟨(pik_f (fun q => q.1 c4) _ _).symm, rfl⟩
  · refine x_aload_n 8 (xd DX5_addressOf rfl) rfl rfl ?_
    refine x_gr 11 _ LX5_21 (xd DX5_addressOf rfl) rfl rfl ⟨by decide, by decide⟩ (by decide) rfl rfl ?_
    refine x_iload_n 12 (xd DX5_addressOf rfl) rfl rfl ?_
    refine x_Vi 15 (pX4_has i hi (by omega)) FX4_has VX4_has CX5_105 (xd DX5_addressOf rfl) rfl rfl rfl ⟨by decide, rfl⟩ ⟨by decide, by decide⟩ (by decide) (Nat.le_of_ble_eq_true rfl) (by decide) rfl ?_
    rintro z9 h9 ⟨q1, q2⟩
    rw [q1, q2]
    clear q1 q2 z9 h9
    refine x_ifp_eq 18 30 (xd DX5_addressOf rfl) rfl rfl (fun c15 => ?_) (fun c15 => ?_)
    · refine x_iload_n 31 (xd DX5_addressOf rfl) rfl rfl ?_
      refine x_ri (xd DX5_addressOf rfl) rfl ?_
      first | exact ⟨(pik_t ⟨c4, c15.1, c15.2⟩ _ _).symm, rfl⟩ | exact ⟨(pik_f (fun q => c15 q.2) _ _).symm, rfl⟩ | exact ⟨(pik_f (fun q => q.1 c4) _ _).symm, rfl⟩
    · refine x_aload_n 19 (xd DX5_addressOf rfl) rfl rfl ?_
      refine x_gr 22 _ LX5_25 (xd DX5_addressOf rfl) rfl rfl ⟨by decide, by decide⟩ (by decide) rfl rfl ?_
      refine x_gr 25 _ LX5_118 (xd DX5_addressOf rfl) rfl rfl ⟨by decide, by decide⟩ (by decide) rfl rfl ?_
      refine x_iload_n 26 (xd DX5_addressOf rfl) rfl rfl ?_
      refine x_iaload 27 (xd DX5_addressOf rfl) rfl ⟨Or.inr ⟨rfl, by decide⟩, by decide⟩ (by decide) (by omega) (by omega) rfl ?_
      refine x_goto 31 (xd DX5_addressOf rfl) rfl ?_
      refine x_ri (xd DX5_addressOf rfl) rfl ?_
      first | exact ⟨(pik_t ⟨c4, c15.1, c15.2⟩ _ _).symm, rfl⟩ | exact ⟨(pik_f (fun q => c15 q.2) _ _).symm, rfl⟩ | exact ⟨(pik_f (fun q => q.1 c4) _ _).symm, rfl⟩

set_option maxRecDepth 100000 in
set_option maxHeartbeats 4000000 in
theorem pX5_jumpBySum {K : XK} {n : Nat} {h : XH} (hP : PW h) (hq : h 255 7 = 0 ∨ h 255 7 = 1) (hs : xrg (h 255 10)) (ha : ∀ j, 0 ≤ j → j < h 4 3 → xrg (h 251 j)) : MV K mX5_jumpBySum 2 n [vr 255] h (fun h' => h' = jmpH h) := by
  refine xMeth FX5_jumpBySum (Nat.le_of_ble_eq_true rfl) ?_
  have hP1 := hP.1
  have loop : ∀ (m : Nat) (xi : Nat), (xi : Int) ≤ h 4 3 → h 4 3 - xi < (m : Int) → fP (jmpP h) xi ((h 4 3).toNat - xi) = fP (jmpP h) 0 (h 4 3).toNat → WI K mX5_jumpBySum 2 n (qV n fun h' => h' = jmpH h) 2 [(0, vr 255), (1, vi (xi : Int))] [] h := by
    intro m
    induction m with
    | zero => intro xi a b; exact absurd b (by omega)
    | succ m ih =>
      intro xi h0 hm hf
      refine x_iload_n 3 (xd DX5_jumpBySum rfl) rfl rfl ?_
      refine x_aload_n 4 (xd DX5_jumpBySum rfl) rfl rfl ?_
      refine x_gr 7 _ LX5_21 (xd DX5_jumpBySum rfl) rfl rfl ⟨by decide, by decide⟩ (by decide) rfl rfl ?_
      refine x_gi 10 3 rfl LX5_121 (xd DX5_jumpBySum rfl) rfl ⟨Or.inr ⟨rfl, by decide⟩, by decide⟩ rfl ?_
      refine x_icmp_ge 13 67 (xd DX5_jumpBySum rfl) rfl (by omega) (by omega) rfl (fun c10 => ?_) (fun c10 => ?_)
      · refine x_aload_n 68 (xd DX5_jumpBySum rfl) rfl rfl ?_
        refine x_iconst 69 (xd DX5_jumpBySum rfl) rfl ?_
        refine x_pz 72 8 rfl LX5_39 (xd DX5_jumpBySum rfl) rfl rfl ⟨Or.inr ⟨rfl, by decide⟩, by decide⟩ (by omega) rfl ?_
        refine x_aload_n 73 (xd DX5_jumpBySum rfl) rfl rfl ?_
        refine x_iconst 74 (xd DX5_jumpBySum rfl) rfl ?_
        refine x_pz 77 6 rfl LX5_33 (xd DX5_jumpBySum rfl) rfl rfl ⟨Or.inr ⟨rfl, by decide⟩, by decide⟩ (by omega) rfl ?_
        refine x_rv (xd DX5_jumpBySum rfl) rfl ?_
        unfold jmpH
        first
          | (rw [← hf, show (h 4 3).toNat - xi = ((h 4 3).toNat - xi - 1) + 1 by omega]
             unfold fP
             rw [pik_t (p := jmpP h xi) ⟨c24, c44⟩, pik_t (by omega)])
          | (rw [← hf, show (h 4 3).toNat - xi = 0 by omega]
             unfold fP
             rw [pik_f (by omega)])
      · refine x_aload_n 14 (xd DX5_jumpBySum rfl) rfl rfl ?_
        refine x_gr 17 _ LX5_21 (xd DX5_jumpBySum rfl) rfl rfl ⟨by decide, by decide⟩ (by decide) rfl rfl ?_
        refine x_gr 20 _ LX5_73 (xd DX5_jumpBySum rfl) rfl rfl ⟨by decide, by decide⟩ (by decide) rfl rfl ?_
        refine x_iload_n 21 (xd DX5_jumpBySum rfl) rfl rfl ?_
        refine x_iaload 22 (xd DX5_jumpBySum rfl) rfl ⟨Or.inr ⟨rfl, by decide⟩, by decide⟩ (by decide) (by omega) (by omega) rfl ?_
        refine x_bipush 24 (xd DX5_jumpBySum rfl) rfl rfl ?_
        refine x_icmp_ne 27 61 (xd DX5_jumpBySum rfl) rfl (by have := hP.v (i := (xi : Int)) (by omega) (by omega); omega) (by have := hP.v (i := (xi : Int)) (by omega) (by omega); omega) rfl (fun c24 => ?_) (fun c24 => ?_)
        · refine x_iinc 64 (L' := [(0, _), (1, _)]) (xd DX5_jumpBySum rfl) rfl (by decide) rfl rfl rfl ?_
          refine x_goto 2 (xd DX5_jumpBySum rfl) rfl ?_
          first
            | exact ih (xi + 1) (by omega) (by omega) (by rw [← hf, show (h 4 3).toNat - xi = ((h 4 3).toNat - (xi + 1)) + 1 by omega]; conv => rhs; unfold fP
                                                          rw [pik_f (fun q => c24 q.1)])
            | exact ih (xi + 1) (by omega) (by omega) (by rw [← hf, show (h 4 3).toNat - xi = ((h 4 3).toNat - (xi + 1)) + 1 by omega]; conv => rhs; unfold fP
                                                          rw [pik_f (fun q => c44 q.2)])
        · refine x_aload_n 28 (xd DX5_jumpBySum rfl) rfl rfl ?_
          refine x_aload_n 29 (xd DX5_jumpBySum rfl) rfl rfl ?_
          refine x_gr 32 _ LX5_21 (xd DX5_jumpBySum rfl) rfl rfl ⟨by decide, by decide⟩ (by decide) rfl rfl ?_
          refine x_gr 35 _ LX5_91 (xd DX5_jumpBySum rfl) rfl rfl ⟨by decide, by decide⟩ (by decide) rfl rfl ?_
          refine x_iload_n 36 (xd DX5_jumpBySum rfl) rfl rfl ?_
          refine x_iaload 37 (xd DX5_jumpBySum rfl) rfl ⟨Or.inr ⟨rfl, by decide⟩, by decide⟩ (by decide) (by omega) (by omega) rfl ?_
          refine x_Vi 40 (pX5_addressOf _ hP (by have := hP.v (i := (xi : Int)) (by omega) (by omega); omega) hq) FX5_addressOf VX5_addressOf CX5_112 (xd DX5_jumpBySum rfl) rfl rfl rfl ⟨by decide, rfl⟩ ⟨by decide, by decide⟩ (by decide) (Nat.le_of_ble_eq_true rfl) (by decide) rfl ?_
          rintro z9 h9 ⟨q1, q2⟩
          rw [q1, q2]
          clear q1 q2 z9 h9
          refine x_aload_n 41 (xd DX5_jumpBySum rfl) rfl rfl ?_
          refine x_gi 44 10 rfl LX5_46 (xd DX5_jumpBySum rfl) rfl ⟨Or.inr ⟨rfl, by decide⟩, by decide⟩ rfl ?_
          refine x_icmp_ne 47 61 (xd DX5_jumpBySum rfl) rfl (by first | exact hs | (have h7 := hP.v (i := (xi : Int)) (by omega) (by omega); unfold adr; by_cases q : h 255 7 ≠ 0 ∧ 0 ≤ h 6 (xi : Int) ∧ h 6 (xi : Int) < h 4 3; rw [pik_t q]; exact ha _ q.2.1 q.2.2; rw [pik_f q]; omega)) (by first | exact hs | (have h7 := hP.v (i := (xi : Int)) (by omega) (by omega); unfold adr; by_cases q : h 255 7 ≠ 0 ∧ 0 ≤ h 6 (xi : Int) ∧ h 6 (xi : Int) < h 4 3; rw [pik_t q]; exact ha _ q.2.1 q.2.2; rw [pik_f q]; omega)) rfl (fun c44 => ?_) (fun c44 => ?_)
          · refine x_iinc 64 (L' := [(0, _), (1, _)]) (xd DX5_jumpBySum rfl) rfl (by decide) rfl rfl rfl ?_
            refine x_goto 2 (xd DX5_jumpBySum rfl) rfl ?_
            first
              | exact ih (xi + 1) (by omega) (by omega) (by rw [← hf, show (h 4 3).toNat - xi = ((h 4 3).toNat - (xi + 1)) + 1 by omega]; conv => rhs; unfold fP
                                                            rw [pik_f (fun q => c24 q.1)])
              | exact ih (xi + 1) (by omega) (by omega) (by rw [← hf, show (h 4 3).toNat - xi = ((h 4 3).toNat - (xi + 1)) + 1 by omega]; conv => rhs; unfold fP
                                                            rw [pik_f (fun q => c44 q.2)])
          · refine x_aload_n 48 (xd DX5_jumpBySum rfl) rfl rfl ?_
            refine x_aload_n 49 (xd DX5_jumpBySum rfl) rfl rfl ?_
            refine x_gr 52 _ LX5_21 (xd DX5_jumpBySum rfl) rfl rfl ⟨by decide, by decide⟩ (by decide) rfl rfl ?_
            refine x_gr 55 _ LX5_91 (xd DX5_jumpBySum rfl) rfl rfl ⟨by decide, by decide⟩ (by decide) rfl rfl ?_
            refine x_iload_n 56 (xd DX5_jumpBySum rfl) rfl rfl ?_
            refine x_iaload 57 (xd DX5_jumpBySum rfl) rfl ⟨Or.inr ⟨rfl, by decide⟩, by decide⟩ (by decide) (by omega) (by omega) rfl ?_
            refine x_pi 60 9 rfl LX5_42 (xd DX5_jumpBySum rfl) rfl rfl ⟨Or.inr ⟨rfl, by decide⟩, by decide⟩ rfl ?_
            refine x_rv (xd DX5_jumpBySum rfl) rfl ?_
            unfold jmpH
            first
              | (rw [← hf, show (h 4 3).toNat - xi = ((h 4 3).toNat - xi - 1) + 1 by omega]
                 unfold fP
                 rw [pik_t (p := jmpP h xi) ⟨c24, c44⟩, pik_t (by omega)])
              | (rw [← hf, show (h 4 3).toNat - xi = 0 by omega]
                 unfold fP
                 rw [pik_f (by omega)])
  refine x_iconst 1 (xd DX5_jumpBySum rfl) rfl ?_
  refine x_istore_n 2 (L' := [(0, _), (1, _)]) (xd DX5_jumpBySum rfl) (by decide) rfl rfl rfl ?_
  exact loop 100 0 (by omega) (by omega) rfl

set_option maxRecDepth 100000 in
set_option maxHeartbeats 4000000 in
theorem pX5_turn {K : XK} {n : Nat} {h : XH} (kd t : Int) (hkd : 7 ≤ kd ∧ kd ≤ 11) (hP : PW h) (ht : xrg t) (hq : h 255 7 = 0 ∨ h 255 7 = 1) (hs : xrg (h 255 10)) (ha : ∀ j, 0 ≤ j → j < h 4 3 → xrg (h 251 j)) : MV K mX5_turn 3 n [vr 255, vi kd, vi t] h (fun h' => h' = trnH h kd t) := by
  refine xMeth FX5_turn (Nat.le_of_ble_eq_true rfl) ?_
  have hk9 : kd = 7 ∨ kd = 8 ∨ kd = 9 ∨ kd = 10 ∨ kd = 11 := by omega
  refine x_iload_n 1 (xd DX5_turn rfl) rfl rfl ?_
  rcases hk9 with e | e | e | e | e <;> subst e
  · refine x_tableIn 32 (xd DX5_turn rfl) (by decide) (by decide) (by decide) rfl rfl ?_
    refine x_aload_n 33 (xd DX5_turn rfl) rfl rfl ?_
    refine x_iload_n 34 (xd DX5_turn rfl) rfl rfl ?_
    refine x_pi 37 9 rfl LX5_42 (xd DX5_turn rfl) rfl rfl ⟨Or.inr ⟨rfl, by decide⟩, by decide⟩ rfl ?_
    refine x_goto 86 (xd DX5_turn rfl) rfl ?_
    refine x_rv (xd DX5_turn rfl) rfl ?_
    unfold trnH
    first | rfl | (rw [if_pos c45]; rfl) | (rw [if_neg c45]; rfl)
  · refine x_tableIn 40 (xd DX5_turn rfl) (by decide) (by decide) (by decide) rfl rfl ?_
    refine x_aload_n 41 (xd DX5_turn rfl) rfl rfl ?_
    refine x_aload_n 42 (xd DX5_turn rfl) rfl rfl ?_
    refine x_gi 45 10 rfl LX5_46 (xd DX5_turn rfl) rfl ⟨Or.inr ⟨rfl, by decide⟩, by decide⟩ rfl ?_
    refine x_if_ne 48 52 (xd DX5_turn rfl) rfl (by omega) rfl (fun c45 => ?_) (fun c45 => ?_)
    · refine x_aload_n 53 (xd DX5_turn rfl) rfl rfl ?_
      refine x_gi 56 9 rfl LX5_42 (xd DX5_turn rfl) rfl ⟨Or.inr ⟨rfl, by decide⟩, by decide⟩ rfl ?_
      refine x_pi 59 9 rfl LX5_42 (xd DX5_turn rfl) rfl rfl ⟨Or.inr ⟨rfl, by decide⟩, by decide⟩ rfl ?_
      refine x_goto 86 (xd DX5_turn rfl) rfl ?_
      refine x_rv (xd DX5_turn rfl) rfl ?_
      unfold trnH
      first | rfl | (rw [if_pos c45]; rfl) | (rw [if_neg c45]; rfl)
    · refine x_iload_n 49 (xd DX5_turn rfl) rfl rfl ?_
      refine x_goto 56 (xd DX5_turn rfl) rfl ?_
      refine x_pi 59 9 rfl LX5_42 (xd DX5_turn rfl) rfl rfl ⟨Or.inr ⟨rfl, by decide⟩, by decide⟩ rfl ?_
      refine x_goto 86 (xd DX5_turn rfl) rfl ?_
      refine x_rv (xd DX5_turn rfl) rfl ?_
      unfold trnH
      first | rfl | (rw [if_pos c45]; rfl) | (rw [if_neg c45]; rfl)
  · refine x_tableIn 62 (xd DX5_turn rfl) (by decide) (by decide) (by decide) rfl rfl ?_
    refine x_aload_n 63 (xd DX5_turn rfl) rfl rfl ?_
    refine x_aload_n 64 (xd DX5_turn rfl) rfl rfl ?_
    refine x_iload_n 65 (xd DX5_turn rfl) rfl rfl ?_
    refine x_Vi 68 (pX5_addressOf t hP ht hq) FX5_addressOf VX5_addressOf CX5_112 (xd DX5_turn rfl) rfl rfl rfl ⟨by decide, rfl⟩ ⟨by decide, by decide⟩ (by decide) (Nat.le_of_ble_eq_true rfl) (by decide) rfl ?_
    rintro z9 h9 ⟨q1, q2⟩
    rw [q1, q2]
    clear q1 q2 z9 h9
    refine x_pi 71 10 rfl LX5_46 (xd DX5_turn rfl) rfl rfl ⟨Or.inr ⟨rfl, by decide⟩, by decide⟩ rfl ?_
    refine x_goto 86 (xd DX5_turn rfl) rfl ?_
    refine x_rv (xd DX5_turn rfl) rfl ?_
    unfold trnH
    first | rfl | (rw [if_pos c45]; rfl) | (rw [if_neg c45]; rfl)
  · refine x_tableIn 74 (xd DX5_turn rfl) (by decide) (by decide) (by decide) rfl rfl ?_
    refine x_aload_n 75 (xd DX5_turn rfl) rfl rfl ?_
    refine x_Vv 78 (pX5_jumpBySum hP hq hs ha) FX5_jumpBySum VX5_jumpBySum CX5_115 (xd DX5_turn rfl) rfl rfl rfl ⟨by decide, rfl⟩ ⟨by decide, by decide⟩ (by decide) (Nat.le_of_ble_eq_true rfl) (by decide) rfl ?_
    rintro h9 q2
    rw [q2]
    clear q2 h9
    refine x_goto 86 (xd DX5_turn rfl) rfl ?_
    refine x_rv (xd DX5_turn rfl) rfl ?_
    unfold trnH
    first | rfl | (rw [if_pos c45]; rfl) | (rw [if_neg c45]; rfl)
  · refine x_tableOut 81 (xd DX5_turn rfl) (by decide) (Or.inr (by decide)) rfl ?_
    refine x_aload_n 82 (xd DX5_turn rfl) rfl rfl ?_
    refine x_iconst 83 (xd DX5_turn rfl) rfl ?_
    refine x_pz 86 6 rfl LX5_33 (xd DX5_turn rfl) rfl rfl ⟨Or.inr ⟨rfl, by decide⟩, by decide⟩ (by omega) rfl ?_
    refine x_rv (xd DX5_turn rfl) rfl ?_
    unfold trnH
    first | rfl | (rw [if_pos c45]; rfl) | (rw [if_neg c45]; rfl)
end
section
/-! Run: lines held, a step, a run-/
def rset (h : XH) (c : Nat) (f : Int → Int) : XH := fun c' j => if c' = c then f j else h c' j
theorem rset_s {h : XH} {c : Nat} {f : Int → Int} : rset h c f c = f := by funext j; unfold rset; exact if_pos rfl
theorem rset_c {h : XH} {c d : Nat} {f : Int → Int} (e : d ≠ c) : rset h c f d = h d := by funext j; unfold rset; exact if_neg e
noncomputable def hldP (h : XH) (l : Int) : Int := fP (fun j => h 258 j = l) 0 (h 255 14).toNat
/-- the counts after a line is used -/
noncomputable def hldM (h : XH) (k : Nat) (l : Int) : XH := pik (0 ≤ hldP h l) h (hset (hset (hset h 255 15 (h 255 15 + 1)) 255 16 (h 255 16 + (lAd h k (l + 1) - lAd h k l))) 255 14 (if h 255 13 < h 255 14 + 1 then h 255 13 else h 255 14 + 1))
noncomputable def hldQ (h : XH) (l : Int) : Int := pik (0 ≤ hldP h l) (hldP h l) ((if h 255 13 < h 255 14 + 1 then h 255 13 else h 255 14 + 1) - 1)
noncomputable def useH (h : XH) (k : Nat) (l : Int) : XH := rset (hldM h k l) 258 (fun j => if j = 0 then l else if 0 < j ∧ j ≤ hldQ h l then h 258 (j - 1) else h 258 j)
/-- a run's numbers -/
def RW (h : XH) : Prop := (h 255 5 = 0 ∨ h 255 5 = 1) ∧ (h 255 6 = 0 ∨ h 255 6 = 1) ∧ (h 255 7 = 0 ∨ h 255 7 = 1) ∧ (h 255 8 = 0 ∨ h 255 8 = 1) ∧ (h 255 6 = 0 → 0 ≤ h 255 9 ∧ h 255 9 < h 4 3) ∧ xrg (h 255 10) ∧ (0 ≤ h 255 12 ∧ h 255 12 ≤ 12) ∧ (1 ≤ h 255 13 ∧ h 255 13 ≤ 4) ∧ (0 ≤ h 255 14 ∧ h 255 14 ≤ h 255 13) ∧ (∀ j, 0 ≤ j → j < 10 → xrg (h 256 j)) ∧ ∀ j, 0 ≤ j → j < h 255 14 → xrg (h 258 j)
set_option maxRecDepth 100000 in
set_option maxHeartbeats 4000000 in
theorem pX5_placeOf {K : XK} {n : Nat} {h : XH} (l : Int) (hl : xrg l) (hc : 0 ≤ h 255 14 ∧ h 255 14 ≤ 4) (hr : ∀ j, 0 ≤ j → j < h 255 14 → xrg (h 258 j)) : MI K mX5_placeOf 0 n [vr 255, vi l] h (fun z h' => z = hldP h l ∧ h' = h) := by
  refine xMeth FX5_placeOf (Nat.le_of_ble_eq_true rfl) ?_
  have loop : ∀ (m : Nat) (xi : Nat), (xi : Int) ≤ h 255 14 → h 255 14 - xi < (m : Int) → fP (fun j => h 258 j = l) xi ((h 255 14).toNat - xi) = fP (fun j => h 258 j = l) 0 (h 255 14).toNat → WI K mX5_placeOf 0 n (qI n fun z h' => z = hldP h l ∧ h' = h) 2 [(0, vr 255), (1, vi l), (2, vi (xi : Int))] [] h := by
    intro m
    induction m with
    | zero => intro xi a b; exact absurd b (by omega)
    | succ m ih =>
      intro xi h0 hm hf
      refine x_iload_n 3 (xd DX5_placeOf rfl) rfl rfl ?_
      refine x_aload_n 4 (xd DX5_placeOf rfl) rfl rfl ?_
      refine x_gi 7 14 rfl LX5_64 (xd DX5_placeOf rfl) rfl ⟨Or.inr ⟨rfl, by decide⟩, by decide⟩ rfl ?_
      refine x_icmp_ge 10 28 (xd DX5_placeOf rfl) rfl (by omega) (by omega) rfl (fun c7 => ?_) (fun c7 => ?_)
      · refine x_bipush 30 (xd DX5_placeOf rfl) rfl rfl ?_
        refine x_ri (xd DX5_placeOf rfl) rfl ?_
        refine ⟨?_, rfl⟩
        unfold hldP
        first
          | (rw [← hf, show (h 255 14).toNat - xi = ((h 255 14).toNat - xi - 1) + 1 by omega]
             unfold fP
             rw [pik_t (p := h 258 xi = l) c17])
          | (rw [← hf, show (h 255 14).toNat - xi = 0 by omega]
             rfl)
      · refine x_aload_n 11 (xd DX5_placeOf rfl) rfl rfl ?_
        refine x_gr 14 _ LX5_18 (xd DX5_placeOf rfl) rfl rfl ⟨by decide, by decide⟩ (by decide) rfl rfl ?_
        refine x_iload_n 15 (xd DX5_placeOf rfl) rfl rfl ?_
        refine x_iaload 16 (xd DX5_placeOf rfl) rfl ⟨Or.inr ⟨rfl, by decide⟩, by decide⟩ (by decide) (by omega) (by omega) rfl ?_
        refine x_iload_n 17 (xd DX5_placeOf rfl) rfl rfl ?_
        refine x_icmp_ne 20 22 (xd DX5_placeOf rfl) rfl (by first | omega | exact hr _ (by omega) (by omega)) (by first | omega | exact hr _ (by omega) (by omega)) rfl (fun c17 => ?_) (fun c17 => ?_)
        · refine x_iinc 25 (L' := [(0, _), (1, _), (2, _)]) (xd DX5_placeOf rfl) rfl (by decide) rfl rfl rfl ?_
          refine x_goto 2 (xd DX5_placeOf rfl) rfl ?_
          exact ih (xi + 1) (by omega) (by omega) (by rw [← hf, show (h 255 14).toNat - xi = ((h 255 14).toNat - (xi + 1)) + 1 by omega]; conv => rhs; unfold fP
                                                      rw [pik_f (p := h 258 xi = l) c17])
        · refine x_iload_n 21 (xd DX5_placeOf rfl) rfl rfl ?_
          refine x_ri (xd DX5_placeOf rfl) rfl ?_
          refine ⟨?_, rfl⟩
          unfold hldP
          first
            | (rw [← hf, show (h 255 14).toNat - xi = ((h 255 14).toNat - xi - 1) + 1 by omega]
               unfold fP
               rw [pik_t (p := h 258 xi = l) c17])
            | (rw [← hf, show (h 255 14).toNat - xi = 0 by omega]
               rfl)
  refine x_iconst 1 (xd DX5_placeOf rfl) rfl ?_
  refine x_istore_n 2 (L' := [(0, _), (1, _), (2, _)]) (xd DX5_placeOf rfl) (by decide) rfl rfl rfl ?_
  exact loop 100 0 (by omega) (by omega) rfl

set_option maxRecDepth 100000 in
set_option maxHeartbeats 4000000 in
theorem pX5_useLine {K : XK} {n : Nat} {h : XH} (l : Int) (k : Nat) (hP : PW h) (hR : RW h) (hl : 0 ≤ l ∧ l < 1000) (hk : h 192 15 = (k : Int)) (hk4 : k ≤ 4) : MV K mX5_useLine 3 n [vr 255, vi l] h (fun h' => h' = useH h k l) := by
  refine xMeth FX5_useLine (Nat.le_of_ble_eq_true rfl) ?_
  have hP1 := hP.1
  obtain ⟨r5, r6, r7, r8, r9, r10, r12, r13, r14, r256, r258⟩ := id hR
  have loop : ∀ (xb : XH) (pq : Int), xb = hldM h k l → pq = hldQ h l → (0 ≤ pq ∧ pq < 4) → ∀ (m : Nat) (xk : Int) (xg : XH), 0 ≤ xk → xk ≤ pq → xk < (m : Int) → (∀ c, c ≠ 258 → xg c = xb c) → (∀ j, xg 258 j = (if xk < j ∧ j ≤ pq then h 258 (j - 1) else h 258 j)) → WI K mX5_useLine 3 n (qV n fun h' => h' = useH h k l) 63 [(0, vr 255), (1, vi l), (2, vi pq), (3, vi xk)] [] xg := by
    intro xb pq hbM hpq hp4 m
    induction m with
    | zero => intro xk xg a b c; exact absurd c (by omega)
    | succ m ih =>
      intro xk xg h0 h1 hm hoth hrow
      refine x_iload_n 64 (xd DX5_useLine rfl) rfl rfl ?_
      refine x_if_le 67 87 (xd DX5_useLine rfl) rfl (by omega) rfl (fun c64 => ?_) (fun c64 => ?_)
      · refine x_aload_n 88 (xd DX5_useLine rfl) rfl rfl ?_
        refine x_gr 91 _ LX5_18 (xd DX5_useLine rfl) rfl rfl ⟨by decide, by decide⟩ (by decide) rfl rfl ?_
        refine x_iconst 92 (xd DX5_useLine rfl) rfl ?_
        refine x_iload_n 93 (xd DX5_useLine rfl) rfl rfl ?_
        refine x_iastore 94 (xd DX5_useLine rfl) rfl ⟨Or.inr ⟨rfl, by decide⟩, by decide⟩ (by decide) (by omega) (by omega) rfl ?_
        refine x_rv (xd DX5_useLine rfl) rfl ?_
        have hk0 : xk = 0 := by omega
        subst hk0
        unfold useH
        rw [← hbM, ← hpq]
        funext c j
        unfold rset
        by_cases q : c = 258
        · subst q
          rw [if_pos rfl]
          show _ = (if j = 0 then l else if 0 < j ∧ j ≤ pq then h 258 (j - 1) else h 258 j)
          by_cases q2 : j = 0
          · subst q2; rw [hset_s, if_pos rfl]
          · rw [hset_i q2, if_neg q2, hrow j]
        · rw [if_neg q, hset_c q, hoth c q]
      · refine x_aload_n 68 (xd DX5_useLine rfl) rfl rfl ?_
        refine x_gr 71 _ LX5_18 (xd DX5_useLine rfl) rfl rfl ⟨by decide, by decide⟩ (by decide) rfl rfl ?_
        refine x_iload_n 72 (xd DX5_useLine rfl) rfl rfl ?_
        refine x_aload_n 73 (xd DX5_useLine rfl) rfl rfl ?_
        refine x_gr 76 _ LX5_18 (xd DX5_useLine rfl) rfl rfl ⟨by decide, by decide⟩ (by decide) rfl rfl ?_
        refine x_iload_n 77 (xd DX5_useLine rfl) rfl rfl ?_
        refine x_iconst 78 (xd DX5_useLine rfl) rfl ?_
        refine x_isub 79 (xd DX5_useLine rfl) rfl ?_
        refine x_iaload 80 (xd DX5_useLine rfl) rfl ⟨Or.inr ⟨rfl, by decide⟩, by decide⟩ (by decide) (by omega) (by omega) rfl ?_
        refine x_iastore 81 (xd DX5_useLine rfl) rfl ⟨Or.inr ⟨rfl, by decide⟩, by decide⟩ (by decide) (by omega) (by omega) rfl ?_
        refine x_iinc 84 (L' := [(0, _), (1, _), (2, _), (3, _)]) (xd DX5_useLine rfl) rfl (by decide) rfl rfl rfl ?_
        refine x_goto 63 (xd DX5_useLine rfl) rfl ?_
        refine ih (xk + -1) _ (by omega) (by omega) (by omega) (fun c a => by rw [hset_c a]; exact hoth c a) (fun j => ?_)
        by_cases q : j = xk
        · subst q
          rw [hset_s, if_pos (by omega), hrow (j - 1), if_neg (by omega)]
        · rw [hset_i q, hrow j]
          by_cases q2 : xk < j ∧ j ≤ pq
          · rw [if_pos q2, if_pos (by omega)]
          · rw [if_neg q2, if_neg (by omega)]
  refine x_aload_n 1 (xd DX5_useLine rfl) rfl rfl ?_
  refine x_iload_n 2 (xd DX5_useLine rfl) rfl rfl ?_
  refine x_Vi 5 (pX5_placeOf l (by omega) (by have := hR.2.2.2.2.2.2.2.2.1; have := hR.2.2.2.2.2.2.2.1; omega) hR.2.2.2.2.2.2.2.2.2.2) FX5_placeOf VX5_placeOf CX5_124 (xd DX5_useLine rfl) rfl rfl rfl ⟨by decide, rfl⟩ ⟨by decide, by decide⟩ (by decide) (Nat.le_of_ble_eq_true rfl) (by decide) rfl ?_
  rintro z9 h9 ⟨q1, q2⟩
  rw [q1, q2]
  clear q1 q2 z9 h9
  refine x_istore_n 6 (L' := [(0, _), (1, _), (2, _)]) (xd DX5_useLine rfl) (by decide) rfl rfl rfl ?_
  refine x_iload_n 7 (xd DX5_useLine rfl) rfl rfl ?_
  refine x_if_ge 10 61 (xd DX5_useLine rfl) rfl (by have := fP_rg (fun j => h 258 j = l) (h 255 14).toNat 0; unfold hldP; omega) rfl (fun c7 => ?_) (fun c7 => ?_)
  · refine x_iload_n 62 (xd DX5_useLine rfl) rfl rfl ?_
    refine x_istore_n 63 (L' := [(0, _), (1, _), (2, _), (3, _)]) (xd DX5_useLine rfl) (by decide) rfl rfl rfl ?_
    first
      | exact loop h (hldP h l) (by unfold hldM; rw [pik_t c7]) (by unfold hldQ; rw [pik_t c7]) (by have := fP_rg (fun j => h 258 j = l) (h 255 14).toNat 0; unfold hldP at *; omega) 100 (hldP h l) h c7 (Int.le_refl _) (by have := fP_rg (fun j => h 258 j = l) (h 255 14).toNat 0; unfold hldP at *; omega) (fun c a => rfl) (fun j => by rw [if_neg (by omega)])
      | (rw [hset_s]
         refine loop _ _ (by unfold hldM; rw [pik_f (by omega)]) (by unfold hldQ; rw [pik_f (by omega)]) (by split <;> omega) 100 _ _ (by split <;> omega) (Int.le_refl _) (by split <;> omega) (fun c a => rfl) (fun j => ?_)
         rw [hset_c (by decide), hset_c (by decide), hset_c (by decide), if_neg (by omega)])
  · refine x_aload_n 11 (xd DX5_useLine rfl) rfl rfl ?_
    refine x_dupr 12 (xd DX5_useLine rfl) rfl ?_
    refine x_gi 15 15 rfl LX5_67 (xd DX5_useLine rfl) rfl ⟨Or.inr ⟨rfl, by decide⟩, by decide⟩ rfl ?_
    refine x_iconst 16 (xd DX5_useLine rfl) rfl ?_
    refine x_iadd 17 (xd DX5_useLine rfl) rfl ?_
    refine x_pi 20 15 rfl LX5_67 (xd DX5_useLine rfl) rfl rfl ⟨Or.inr ⟨rfl, by decide⟩, by decide⟩ rfl ?_
    refine x_aload_n 21 (xd DX5_useLine rfl) rfl rfl ?_
    refine x_dupr 22 (xd DX5_useLine rfl) rfl ?_
    refine x_gi 25 16 rfl LX5_70 (xd DX5_useLine rfl) rfl ⟨Or.inr ⟨rfl, by decide⟩, by decide⟩ rfl ?_
    refine x_aload_n 26 (xd DX5_useLine rfl) rfl rfl ?_
    refine x_gr 29 _ LX5_25 (xd DX5_useLine rfl) rfl rfl ⟨by decide, by decide⟩ (by decide) rfl rfl ?_
    refine x_iload_n 30 (xd DX5_useLine rfl) rfl rfl ?_
    refine x_Vi 33 (pX3_lineNibbles l k (hP.off (ocell (c := 255)) (by decide) (by decide) (by decide) (by decide)) (by rw [hset_c (by decide)]; exact hk) hk4 (by omega)) FX3_lineNibbles VX3_lineNibbles CX5_127 (xd DX5_useLine rfl) rfl rfl rfl ⟨by decide, rfl⟩ ⟨by decide, by decide⟩ (by decide) (Nat.le_of_ble_eq_true rfl) (by decide) rfl ?_
    rintro z9 h9 ⟨q1, q2⟩
    rw [q1, q2]
    clear q1 q2 z9 h9
    refine x_iadd 34 (xd DX5_useLine rfl) rfl ?_
    refine x_pi 37 16 rfl LX5_70 (xd DX5_useLine rfl) rfl rfl ⟨Or.inr ⟨rfl, by decide⟩, by decide⟩ rfl ?_
    have eL : ∀ x, lAd (hset h 255 15 (h 255 15 + 1)) k x = lAd h k x := fun x => by unfold lAd; rw [hset_c (d := 4) (by decide), hset_c (d := 251) (by decide), hset_c (d := 192) (by decide)]
    rw [eL, eL, hset_i (h := h) (c := 255) (k := 15) (j := 16) (by decide)]
    have e13 : hset (hset h 255 15 (h 255 15 + 1)) 255 16 (h 255 16 + (lAd h k (l + 1) - lAd h k l)) 255 13 = h 255 13 := by rw [hset_i (by decide), hset_i (by decide)]
    have e14 : hset (hset h 255 15 (h 255 15 + 1)) 255 16 (h 255 16 + (lAd h k (l + 1) - lAd h k l)) 255 14 = h 255 14 := by rw [hset_i (by decide), hset_i (by decide)]
    refine x_aload_n 38 (xd DX5_useLine rfl) rfl rfl ?_
    refine x_aload_n 39 (xd DX5_useLine rfl) rfl rfl ?_
    refine x_gi 42 14 rfl LX5_64 (xd DX5_useLine rfl) rfl ⟨Or.inr ⟨rfl, by decide⟩, by decide⟩ rfl ?_
    refine x_iconst 43 (xd DX5_useLine rfl) rfl ?_
    refine x_iadd 44 (xd DX5_useLine rfl) rfl ?_
    refine x_aload_n 45 (xd DX5_useLine rfl) rfl rfl ?_
    refine x_gi 48 13 rfl LX5_61 (xd DX5_useLine rfl) rfl ⟨Or.inr ⟨rfl, by decide⟩, by decide⟩ rfl ?_
    refine x_min 51 mmLX5_55 mmS mmI mmC (xd DX5_useLine rfl) ⟨by decide, Nat.le_refl _, Nat.le_refl _⟩ (Nat.le_of_ble_eq_true rfl) (by rw [e14]; omega) (by rw [e13]; omega) rfl ?_
    rw [e13, e14]
    refine x_pi 54 14 rfl LX5_64 (xd DX5_useLine rfl) rfl rfl ⟨Or.inr ⟨rfl, by decide⟩, by decide⟩ rfl ?_
    refine x_aload_n 55 (xd DX5_useLine rfl) rfl rfl ?_
    refine x_gi 58 14 rfl LX5_64 (xd DX5_useLine rfl) rfl ⟨Or.inr ⟨rfl, by decide⟩, by decide⟩ rfl ?_
    refine x_iconst 59 (xd DX5_useLine rfl) rfl ?_
    refine x_isub 60 (xd DX5_useLine rfl) rfl ?_
    refine x_istore_n 61 (L' := [(0, _), (1, _), (2, _)]) (xd DX5_useLine rfl) (by decide) rfl rfl rfl ?_
    refine x_iload_n 62 (xd DX5_useLine rfl) rfl rfl ?_
    refine x_istore_n 63 (L' := [(0, _), (1, _), (2, _), (3, _)]) (xd DX5_useLine rfl) (by decide) rfl rfl rfl ?_
    first
      | exact loop h (hldP h l) (by unfold hldM; rw [pik_t c7]) (by unfold hldQ; rw [pik_t c7]) (by have := fP_rg (fun j => h 258 j = l) (h 255 14).toNat 0; unfold hldP at *; omega) 100 (hldP h l) h c7 (Int.le_refl _) (by have := fP_rg (fun j => h 258 j = l) (h 255 14).toNat 0; unfold hldP at *; omega) (fun c a => rfl) (fun j => by rw [if_neg (by omega)])
      | (rw [hset_s]
         refine loop _ _ (by unfold hldM; rw [pik_f (by omega)]) (by unfold hldQ; rw [pik_f (by omega)]) (by split <;> omega) 100 _ _ (by split <;> omega) (Int.le_refl _) (by split <;> omega) (fun c a => rfl) (fun j => ?_)
         rw [hset_c (by decide), hset_c (by decide), hset_c (by decide), if_neg (by omega)])

set_option maxRecDepth 100000 in
set_option maxHeartbeats 4000000 in
theorem pX4_targetCount {K : XK} {n : Nat} {h : XH} (hP : PW h) : MI K mX4_targetCount 0 n [vr 4] h (fun z h' => z = cntR (fun j => h 7 j = 1) 0 (h 4 3).toNat ∧ h' = h) := by
  refine xMeth FX4_targetCount (Nat.le_of_ble_eq_true rfl) ?_
  have hP1 := hP.1
  have loop : ∀ (m : Nat) (xi : Nat) (xz : Int), (xi : Int) ≤ h 4 3 → h 4 3 - xi < (m : Int) → xz = cntR (fun j => h 7 j = 1) 0 xi → WI K mX4_targetCount 0 n (qI n fun z h' => z = cntR (fun j => h 7 j = 1) 0 (h 4 3).toNat ∧ h' = h) 4 [(0, vr 4), (1, vi xz), (2, vi (xi : Int))] [] h := by
    intro m
    induction m with
    | zero => intro xi xz a b; exact absurd b (by omega)
    | succ m ih =>
      intro xi xz h0 hm hz
      refine x_iload_n 5 (xd DX4_targetCount rfl) rfl rfl ?_
      refine x_aload_n 6 (xd DX4_targetCount rfl) rfl rfl ?_
      refine x_gi 9 3 rfl LX4_28 (xd DX4_targetCount rfl) rfl ⟨Or.inr ⟨rfl, by decide⟩, by decide⟩ rfl ?_
      refine x_icmp_ge 12 30 (xd DX4_targetCount rfl) rfl (by omega) (by omega) rfl (fun c9 => ?_) (fun c9 => ?_)
      · refine x_iload_n 31 (xd DX4_targetCount rfl) rfl rfl ?_
        refine x_ri (xd DX4_targetCount rfl) rfl ?_
        refine ⟨?_, rfl⟩
        rw [hz, show (h 4 3).toNat = xi by omega]
      · refine x_aload_n 13 (xd DX4_targetCount rfl) rfl rfl ?_
        refine x_gr 16 _ LX4_18 (xd DX4_targetCount rfl) rfl rfl ⟨by decide, by decide⟩ (by decide) rfl rfl ?_
        refine x_iload_n 17 (xd DX4_targetCount rfl) rfl rfl ?_
        refine x_baload 18 (xd DX4_targetCount rfl) rfl ⟨Or.inr ⟨rfl, by decide⟩, by decide⟩ (by decide) (by omega) (by omega) rfl ?_
        refine x_if_eq 21 24 (xd DX4_targetCount rfl) rfl (by have := (hP.2 (xi : Int) (by omega) (by omega)).2.2.2.2; omega) rfl (fun c18 => ?_) (fun c18 => ?_)
        · refine x_iinc 27 (L' := [(0, _), (1, _), (2, _)]) (xd DX4_targetCount rfl) rfl (by decide) rfl rfl rfl ?_
          refine x_goto 4 (xd DX4_targetCount rfl) rfl ?_
          have h79 := (hP.2 (xi : Int) (by omega) (by omega)).2.2.2.2
          first
            | exact ih (xi + 1) _ (by omega) (by omega) (by unfold cntR; rw [Nat.zero_add, ← xp_f (p := h 7 xi = 1) (by omega), hz, Int.add_zero])
            | exact ih (xi + 1) _ (by omega) (by omega) (by unfold cntR; rw [Nat.zero_add, ← xp_t (p := h 7 xi = 1) (by omega), hz])
        · refine x_iinc 24 (L' := [(0, _), (1, _), (2, _)]) (xd DX4_targetCount rfl) rfl (by decide) rfl rfl rfl ?_
          refine x_iinc 27 (L' := [(0, _), (1, _), (2, _)]) (xd DX4_targetCount rfl) rfl (by decide) rfl rfl rfl ?_
          refine x_goto 4 (xd DX4_targetCount rfl) rfl ?_
          have h79 := (hP.2 (xi : Int) (by omega) (by omega)).2.2.2.2
          first
            | exact ih (xi + 1) _ (by omega) (by omega) (by unfold cntR; rw [Nat.zero_add, ← xp_f (p := h 7 xi = 1) (by omega), hz, Int.add_zero])
            | exact ih (xi + 1) _ (by omega) (by omega) (by unfold cntR; rw [Nat.zero_add, ← xp_t (p := h 7 xi = 1) (by omega), hz])
  refine x_iconst 1 (xd DX4_targetCount rfl) rfl ?_
  refine x_istore_n 2 (L' := [(0, _), (1, _)]) (xd DX4_targetCount rfl) (by decide) rfl rfl rfl ?_
  refine x_iconst 3 (xd DX4_targetCount rfl) rfl ?_
  refine x_istore_n 4 (L' := [(0, _), (1, _), (2, _)]) (xd DX4_targetCount rfl) (by decide) rfl rfl rfl ?_
  exact loop 100 0 0 (by omega) (by omega) rfl

def plN (h : XH) : Nat → Int
  | 0 => 0
  | i + 1 => plN h i + kOwn (h 5 i)
set_option maxRecDepth 100000 in
set_option maxHeartbeats 4000000 in
theorem pX4_plainNibbles {K : XK} {n : Nat} {h : XH} (hP : PW h) : MI K mX4_plainNibbles 2 n [vr 4] h (fun z h' => z = plN h (h 4 3).toNat ∧ h' = h) := by
  refine xMeth FX4_plainNibbles (Nat.le_of_ble_eq_true rfl) ?_
  have hP1 := hP.1
  have loop : ∀ (m : Nat) (xi : Nat) (xz : Int), (xi : Int) ≤ h 4 3 → h 4 3 - xi < (m : Int) → xz = plN h xi → WI K mX4_plainNibbles 2 n (qI n fun z h' => z = plN h (h 4 3).toNat ∧ h' = h) 4 [(0, vr 4), (1, vi xz), (2, vi (xi : Int))] [] h := by
    intro m
    induction m with
    | zero => intro xi xz a b; exact absurd b (by omega)
    | succ m ih =>
      intro xi xz h0 hm hz
      refine x_iload_n 5 (xd DX4_plainNibbles rfl) rfl rfl ?_
      refine x_aload_n 6 (xd DX4_plainNibbles rfl) rfl rfl ?_
      refine x_gi 9 3 rfl LX4_28 (xd DX4_plainNibbles rfl) rfl ⟨Or.inr ⟨rfl, by decide⟩, by decide⟩ rfl ?_
      refine x_icmp_ge 12 30 (xd DX4_plainNibbles rfl) rfl (by omega) (by omega) rfl (fun c9 => ?_) (fun c9 => ?_)
      · refine x_iload_n 31 (xd DX4_plainNibbles rfl) rfl rfl ?_
        refine x_ri (xd DX4_plainNibbles rfl) rfl ?_
        refine ⟨?_, rfl⟩
        rw [hz, show (h 4 3).toNat = xi by omega]
      · refine x_iload_n 13 (xd DX4_plainNibbles rfl) rfl rfl ?_
        refine x_aload_n 14 (xd DX4_plainNibbles rfl) rfl rfl ?_
        refine x_gr 17 _ LX4_9 (xd DX4_plainNibbles rfl) rfl rfl ⟨by decide, by decide⟩ (by decide) rfl rfl ?_
        refine x_iload_n 18 (xd DX4_plainNibbles rfl) rfl rfl ?_
        refine x_iaload 19 (xd DX4_plainNibbles rfl) rfl ⟨Or.inr ⟨rfl, by decide⟩, by decide⟩ (by decide) (by omega) (by omega) rfl ?_
        refine x_Si 22 (pX8_nibblesOf _ (by have := hP.v (i := (xi : Int)) (by omega) (by omega); omega)) FX8_nibblesOf VX8_nibblesOf CX4_45 (xd DX4_plainNibbles rfl) rfl rfl (by decide) (Nat.le_of_ble_eq_true rfl) (by decide) rfl ?_
        rintro z9 h9 ⟨q1, q2⟩
        rw [q1, q2]
        clear q1 q2 z9 h9
        refine x_iadd 23 (xd DX4_plainNibbles rfl) rfl ?_
        refine x_istore_n 24 (L' := [(0, _), (1, _), (2, _)]) (xd DX4_plainNibbles rfl) (by decide) rfl rfl rfl ?_
        refine x_iinc 27 (L' := [(0, _), (1, _), (2, _)]) (xd DX4_plainNibbles rfl) rfl (by decide) rfl rfl rfl ?_
        refine x_goto 4 (xd DX4_plainNibbles rfl) rfl ?_
        exact ih (xi + 1) _ (by omega) (by omega) (by rw [hz]; rfl)
  refine x_iconst 1 (xd DX4_plainNibbles rfl) rfl ?_
  refine x_istore_n 2 (L' := [(0, _), (1, _)]) (xd DX4_plainNibbles rfl) (by decide) rfl rfl rfl ?_
  refine x_iconst 3 (xd DX4_plainNibbles rfl) rfl ?_
  refine x_istore_n 4 (L' := [(0, _), (1, _), (2, _)]) (xd DX4_plainNibbles rfl) (by decide) rfl rfl rfl ?_
  exact loop 100 0 0 (by omega) (by omega) rfl
end
section
/-! Run: a step; a run begins; what is told of it -/
def SRu (x : Nat) : Prop := 255 ≤ x ∧ x ≤ 258
theorem hldM_off (h : XH) (k : Nat) (l : Int) : Off (fun c => c = 255) h (hldM h k l) := by
  unfold hldM
  by_cases q : 0 ≤ hldP h l
  · rw [pik_t q]; exact Off.rf
  · rw [pik_f q]; exact ((ocell (c := 255)).tr ocell).tr ocell
theorem hldM_255 (h : XH) (k : Nat) (l : Int) {j : Int} (h14 : j ≠ 14) (h15 : j ≠ 15) (h16 : j ≠ 16) : hldM h k l 255 j = h 255 j := by
  unfold hldM
  by_cases q : 0 ≤ hldP h l
  · rw [pik_t q]
  · rw [pik_f q, hset_i h14, hset_i h16, hset_i h15]
theorem useH_off (h : XH) (k : Nat) (l : Int) : Off SRu h (useH h k l) := fun c hc => by
  unfold useH
  rw [rset_c (by unfold SRu at hc; omega), hldM_off h k l c (by unfold SRu at hc; omega)]
theorem useH_255 (h : XH) (k : Nat) (l : Int) {j : Int} (h14 : j ≠ 14) (h15 : j ≠ 15) (h16 : j ≠ 16) : useH h k l 255 j = h 255 j := by
  unfold useH
  rw [rset_c (by decide)]
  exact hldM_255 h k l h14 h15 h16
theorem useH_row (h : XH) (k : Nat) (l : Int) {c : Nat} (hc : c = 256 ∨ c = 257) : useH h k l c = h c := by
  unfold useH
  rw [rset_c (by omega), hldM_off h k l c (by omega)]
noncomputable def stpA (h : XH) (k : Nat) : XH := pik (h 255 7 ≠ 0) (useH h k (h 255 9 / (2 ^ k : Nat))) h
noncomputable def stpB (h : XH) (k : Nat) : XH := hset (hset (stpA h k) 255 11 (h 255 11 + 1)) 255 9 (h 255 9 + 1)
noncomputable def stpC (h : XH) (k : Nat) : XH := if 0 ≤ h 5 (h 255 9) ∧ h 5 (h 255 9) ≤ 6 then wkH (stpB h k) (h 5 (h 255 9)) (h 6 (h 255 9)) else trnH (stpB h k) (h 5 (h 255 9)) (h 6 (h 255 9))
noncomputable def stpH (h : XH) (k : Nat) : XH := pik (0 ≤ stpC h k 255 9 ∧ stpC h k 255 9 < h 4 3) (stpC h k) (hset (stpC h k) 255 6 1)
theorem stpA_off (h : XH) (k : Nat) : Off SRu h (stpA h k) := by
  unfold stpA
  by_cases q : h 255 7 ≠ 0
  · rw [pik_t q]; exact useH_off h k _
  · rw [pik_f q]; exact Off.rf
theorem stpA_255 (h : XH) (k : Nat) {j : Int} (h14 : j ≠ 14) (h15 : j ≠ 15) (h16 : j ≠ 16) : stpA h k 255 j = h 255 j := by
  unfold stpA
  by_cases q : h 255 7 ≠ 0
  · rw [pik_t q]; exact useH_255 h k _ h14 h15 h16
  · rw [pik_f q]
theorem o255 {h : XH} {k z : Int} : Off SRu h (hset h 255 k z) := Off.set (by unfold SRu; omega)
theorem stpB_off (h : XH) (k : Nat) : Off SRu h (stpB h k) := ((stpA_off h k).tr o255).tr o255
theorem wkH_off (h : XH) (kd v : Int) : Off SRu h (wkH h kd v) := by
  unfold wkH tellH
  (repeat' split)
  all_goals first | exact o255 | exact Off.set (by unfold SRu; omega) | exact (Off.set (c := 257) (by unfold SRu; omega)).tr o255
theorem jmpH_off (h : XH) : Off SRu h (jmpH h) := by
  unfold jmpH
  by_cases q : 0 ≤ fP (jmpP h) 0 (h 4 3).toNat
  · rw [pik_t q]; exact o255
  · rw [pik_f q]; exact o255.tr o255
theorem trnH_off (h : XH) (kd v : Int) : Off SRu h (trnH h kd v) := by
  unfold trnH
  (repeat' split)
  all_goals first | exact o255 | exact jmpH_off h
theorem stpC_off (h : XH) (k : Nat) : Off SRu h (stpC h k) := by
  unfold stpC
  split
  · exact (stpB_off h k).tr (wkH_off _ _ _)
  · exact (stpB_off h k).tr (trnH_off _ _ _)
theorem stpH_off (h : XH) (k : Nat) : Off SRu h (stpH h k) := by
  unfold stpH
  by_cases q : 0 ≤ stpC h k 255 9 ∧ stpC h k 255 9 < h 4 3
  · rw [pik_t q]; exact stpC_off h k
  · rw [pik_f q]; exact (stpC_off h k).tr o255
set_option maxRecDepth 100000 in
set_option maxHeartbeats 4000000 in
theorem pX5_takeStep {K : XK} {n : Nat} {h : XH} (k : Nat) (hP : PW h) (hR : RW h) (hn : h 255 6 = 0) (h6 : h 5 (h 255 9) = 6 → h 255 12 < 12) (hk : h 192 15 = (k : Int)) (hk4 : k ≤ 4) (ha : ∀ j, 0 ≤ j → j < h 4 3 → xrg (h 251 j)) (C9 : xrg (stpC h k 255 9)) : MV K mX5_takeStep 4 n [vr 255] h (fun h' => h' = stpH h k) := by
  refine xMeth FX5_takeStep (Nat.le_of_ble_eq_true rfl) ?_
  have hP1 := hP.1
  obtain ⟨r5, r6, r7, r8, r9, r10, r12, r13, r14, r256, r258⟩ := id hR
  obtain ⟨h0, h1⟩ := r9 hn
  have hp : (0 : Int) < ((2 ^ k : Nat) : Int) := Int.natCast_pos.mpr (Nat.two_pow_pos k)
  have hl9 : 0 ≤ h 255 9 / (2 ^ k : Nat) ∧ h 255 9 / (2 ^ k : Nat) < 1000 := ⟨Int.ediv_nonneg h0 (Int.le_of_lt hp), by have := Int.ediv_le_self (a := h 255 9) ((2 ^ k : Nat) : Int) h0; omega⟩
  have B := stpB_off h k
  have A0 := stpA_off h k
  have A5 : stpA h k 5 = h 5 := A0 5 (by unfold SRu; omega)
  have A6 : stpA h k 6 = h 6 := A0 6 (by unfold SRu; omega)
  have A9 : stpA h k 255 9 = h 255 9 := stpA_255 h k (by decide) (by decide) (by decide)
  have A11 : stpA h k 255 11 = h 255 11 := stpA_255 h k (by decide) (by decide) (by decide)
  have bb : ∀ j, j ≠ 9 → j ≠ 11 → j ≠ 14 → j ≠ 15 → j ≠ 16 → stpB h k 255 j = h 255 j := fun j a b c d e => by unfold stpB; rw [hset_i a, hset_i b]; exact stpA_255 h k c d e
  have b12 : stpB h k 255 12 = h 255 12 := bb 12 (by decide) (by decide) (by decide) (by decide) (by decide)
  have b7 : stpB h k 255 7 = h 255 7 := bb 7 (by decide) (by decide) (by decide) (by decide) (by decide)
  have b10 : stpB h k 255 10 = h 255 10 := bb 10 (by decide) (by decide) (by decide) (by decide) (by decide)
  have PB : PW (stpB h k) := hP.off B (by unfold SRu; omega) (by unfold SRu; omega) (by unfold SRu; omega) (by unfold SRu; omega)
  have CO := stpC_off h k
  have j90 : WI K mX5_takeStep 4 n (qV n fun h' => h' = stpH h k) 90 [(0, vr 255), (1, vi (h 5 (h 255 9))), (2, vi (h 6 (h 255 9)))] [] (stpC h k) := by
    refine x_aload_n 91 (xd DX5_takeStep rfl) rfl rfl ?_
    refine x_gr 94 _ LX5_21 (xd DX5_takeStep rfl) rfl rfl ⟨by decide, by decide⟩ (by decide) rfl rfl ?_
    refine x_aload_n 95 (xd DX5_takeStep rfl) rfl rfl ?_
    refine x_gi 98 9 rfl LX5_42 (xd DX5_takeStep rfl) rfl ⟨Or.inr ⟨rfl, by decide⟩, by decide⟩ rfl ?_
    refine x_Vi 101 (pX4_has (stpC h k 255 9) C9 (by rw [CO 4 (by unfold SRu; omega)]; omega)) FX4_has VX4_has CX5_105 (xd DX5_takeStep rfl) rfl rfl rfl ⟨by decide, rfl⟩ ⟨by decide, by decide⟩ (by decide) (Nat.le_of_ble_eq_true rfl) (by decide) rfl ?_
    rintro z9 h9 ⟨q1, q2⟩
    rw [q1, q2]
    clear q1 q2 z9 h9
    rw [CO 4 (by unfold SRu; omega)]
    refine x_ifp_ne 104 109 (xd DX5_takeStep rfl) rfl rfl (fun c101 => ?_) (fun c101 => ?_)
    · refine x_rv (xd DX5_takeStep rfl) rfl ?_
      unfold stpH
      first | rw [pik_t c101] | rw [pik_f c101]
    · refine x_aload_n 105 (xd DX5_takeStep rfl) rfl rfl ?_
      refine x_iconst 106 (xd DX5_takeStep rfl) rfl ?_
      refine x_pz 109 6 rfl LX5_33 (xd DX5_takeStep rfl) rfl rfl ⟨Or.inr ⟨rfl, by decide⟩, by decide⟩ (by omega) rfl ?_
      refine x_rv (xd DX5_takeStep rfl) rfl ?_
      unfold stpH
      first | rw [pik_t c101] | rw [pik_f c101]
  have j22 : ∀ {xg : XH}, stpA h k = xg → WI K mX5_takeStep 4 n (qV n fun h' => h' = stpH h k) 22 [(0, vr 255)] [] xg := by
    intro xg q
    rw [← q]
    refine x_aload_n 23 (xd DX5_takeStep rfl) rfl rfl ?_
    refine x_gr 26 _ LX5_21 (xd DX5_takeStep rfl) rfl rfl ⟨by decide, by decide⟩ (by decide) rfl rfl ?_
    refine x_gr 29 _ LX5_73 (xd DX5_takeStep rfl) rfl rfl ⟨by decide, by decide⟩ (by decide) rfl rfl ?_
    refine x_aload_n 30 (xd DX5_takeStep rfl) rfl rfl ?_
    refine x_gi 33 9 rfl LX5_42 (xd DX5_takeStep rfl) rfl ⟨Or.inr ⟨rfl, by decide⟩, by decide⟩ rfl ?_
    refine x_iaload 34 (xd DX5_takeStep rfl) rfl ⟨Or.inr ⟨rfl, by decide⟩, by decide⟩ (by decide) (by first | omega | (rw [A9]; omega)) (by first | omega | (rw [A9]; omega)) rfl ?_
    rw [A5, A9]
    refine x_istore_n 35 (L' := [(0, _), (1, _)]) (xd DX5_takeStep rfl) (by decide) rfl rfl rfl ?_
    refine x_aload_n 36 (xd DX5_takeStep rfl) rfl rfl ?_
    refine x_gr 39 _ LX5_21 (xd DX5_takeStep rfl) rfl rfl ⟨by decide, by decide⟩ (by decide) rfl rfl ?_
    refine x_gr 42 _ LX5_91 (xd DX5_takeStep rfl) rfl rfl ⟨by decide, by decide⟩ (by decide) rfl rfl ?_
    refine x_aload_n 43 (xd DX5_takeStep rfl) rfl rfl ?_
    refine x_gi 46 9 rfl LX5_42 (xd DX5_takeStep rfl) rfl ⟨Or.inr ⟨rfl, by decide⟩, by decide⟩ rfl ?_
    refine x_iaload 47 (xd DX5_takeStep rfl) rfl ⟨Or.inr ⟨rfl, by decide⟩, by decide⟩ (by decide) (by first | omega | (rw [A9]; omega)) (by first | omega | (rw [A9]; omega)) rfl ?_
    rw [A6, A9]
    refine x_istore_n 48 (L' := [(0, _), (1, _), (2, _)]) (xd DX5_takeStep rfl) (by decide) rfl rfl rfl ?_
    refine x_aload_n 49 (xd DX5_takeStep rfl) rfl rfl ?_
    refine x_dupr 50 (xd DX5_takeStep rfl) rfl ?_
    refine x_gi 53 11 rfl LX5_49 (xd DX5_takeStep rfl) rfl ⟨Or.inr ⟨rfl, by decide⟩, by decide⟩ rfl ?_
    refine x_iconst 54 (xd DX5_takeStep rfl) rfl ?_
    refine x_iadd 55 (xd DX5_takeStep rfl) rfl ?_
    rw [A11]
    refine x_pi 58 11 rfl LX5_49 (xd DX5_takeStep rfl) rfl rfl ⟨Or.inr ⟨rfl, by decide⟩, by decide⟩ rfl ?_
    refine x_aload_n 59 (xd DX5_takeStep rfl) rfl rfl ?_
    refine x_dupr 60 (xd DX5_takeStep rfl) rfl ?_
    refine x_gi 63 9 rfl LX5_42 (xd DX5_takeStep rfl) rfl ⟨Or.inr ⟨rfl, by decide⟩, by decide⟩ rfl ?_
    refine x_iconst 64 (xd DX5_takeStep rfl) rfl ?_
    refine x_iadd 65 (xd DX5_takeStep rfl) rfl ?_
    rw [hset_i (h := stpA h k) (c := 255) (k := 11) (j := 9) (by decide), A9]
    refine x_pi 68 9 rfl LX5_42 (xd DX5_takeStep rfl) rfl rfl ⟨Or.inr ⟨rfl, by decide⟩, by decide⟩ rfl ?_
    rw [show hset (hset (stpA h k) 255 11 (h 255 11 + 1)) 255 9 (h 255 9 + 1) = stpB h k from rfl]
    refine x_iload_n 69 (xd DX5_takeStep rfl) rfl rfl ?_
    refine x_Si 72 (pX8_isSimple _ (by have := hP.v h0 h1; omega)) FX8_isSimple VX8_isSimple CX5_94 (xd DX5_takeStep rfl) rfl rfl (by decide) (Nat.le_of_ble_eq_true rfl) (by decide) rfl ?_
    rintro z9 h9 ⟨q1, q2⟩
    rw [q1, q2]
    clear q1 q2 z9 h9
    refine x_ifp_eq 75 84 (xd DX5_takeStep rfl) rfl rfl (fun c72 => ?_) (fun c72 => ?_)
    · refine x_aload_n 85 (xd DX5_takeStep rfl) rfl rfl ?_
      refine x_iload_n 86 (xd DX5_takeStep rfl) rfl rfl ?_
      refine x_iload_n 87 (xd DX5_takeStep rfl) rfl rfl ?_
      refine x_Vv 90 (pX5_turn (h 5 (h 255 9)) (h 6 (h 255 9)) (by have := hP.v h0 h1; unfold kSim at c72; omega) PB (by have := hP.v h0 h1; omega) (by rw [b7]; exact r7) (by rw [b10]; exact r10) (by rw [B 251 (by unfold SRu; omega), B 4 (by unfold SRu; omega)]; exact ha)) FX5_turn VX5_turn CX5_102 (xd DX5_takeStep rfl) rfl rfl rfl ⟨by decide, rfl⟩ ⟨by decide, by decide⟩ (by decide) (Nat.le_of_ble_eq_true rfl) (by decide) rfl ?_
      rintro h9 q2
      rw [q2]
      clear q2 h9
      first
        | (have e9 : wkH (stpB h k) (h 5 (h 255 9)) (h 6 (h 255 9)) = stpC h k := by unfold stpC; rw [if_pos (show 0 ≤ h 5 (h 255 9) ∧ h 5 (h 255 9) ≤ 6 from c72)]
           rw [e9]; exact j90)
        | (have e9 : trnH (stpB h k) (h 5 (h 255 9)) (h 6 (h 255 9)) = stpC h k := by unfold stpC; rw [if_neg (show ¬ (0 ≤ h 5 (h 255 9) ∧ h 5 (h 255 9) ≤ 6) from c72)]
           rw [e9]; exact j90)
    · refine x_aload_n 76 (xd DX5_takeStep rfl) rfl rfl ?_
      refine x_iload_n 77 (xd DX5_takeStep rfl) rfl rfl ?_
      refine x_iload_n 78 (xd DX5_takeStep rfl) rfl rfl ?_
      refine x_Vv 81 (pX5_work (h 5 (h 255 9)) (h 6 (h 255 9)) c72 ((hP.2 _ h0 h1).2.1 c72.2) (fun q => by rw [b12]; have := h6 q; omega)) FX5_work VX5_work CX5_98 (xd DX5_takeStep rfl) rfl rfl rfl ⟨by decide, rfl⟩ ⟨by decide, by decide⟩ (by decide) (Nat.le_of_ble_eq_true rfl) (by decide) rfl ?_
      rintro h9 q2
      rw [q2]
      clear q2 h9
      refine x_goto 90 (xd DX5_takeStep rfl) rfl ?_
      first
        | (have e9 : wkH (stpB h k) (h 5 (h 255 9)) (h 6 (h 255 9)) = stpC h k := by unfold stpC; rw [if_pos (show 0 ≤ h 5 (h 255 9) ∧ h 5 (h 255 9) ≤ 6 from c72)]
           rw [e9]; exact j90)
        | (have e9 : trnH (stpB h k) (h 5 (h 255 9)) (h 6 (h 255 9)) = stpC h k := by unfold stpC; rw [if_neg (show ¬ (0 ≤ h 5 (h 255 9) ∧ h 5 (h 255 9) ≤ 6) from c72)]
           rw [e9]; exact j90)
  refine x_aload_n 1 (xd DX5_takeStep rfl) rfl rfl ?_
  refine x_gz 4 7 rfl LX5_36 (xd DX5_takeStep rfl) rfl ⟨Or.inr ⟨rfl, by decide⟩, by decide⟩ rfl ?_
  refine x_if_eq 7 22 (xd DX5_takeStep rfl) rfl (by omega) rfl (fun c4 => ?_) (fun c4 => ?_)
  · first | exact j22 (by unfold stpA; rw [pik_t c4]) | exact j22 (by unfold stpA; rw [pik_f (fun q => q c4)])
  · refine x_aload_n 8 (xd DX5_takeStep rfl) rfl rfl ?_
    refine x_aload_n 9 (xd DX5_takeStep rfl) rfl rfl ?_
    refine x_gr 12 _ LX5_25 (xd DX5_takeStep rfl) rfl rfl ⟨by decide, by decide⟩ (by decide) rfl rfl ?_
    refine x_aload_n 13 (xd DX5_takeStep rfl) rfl rfl ?_
    refine x_gi 16 9 rfl LX5_42 (xd DX5_takeStep rfl) rfl ⟨Or.inr ⟨rfl, by decide⟩, by decide⟩ rfl ?_
    refine x_Vi 19 (pX3_lineOf (h 255 9) k (by omega) hk (by omega)) FX3_lineOf VX3_lineOf CX5_81 (xd DX5_takeStep rfl) rfl rfl rfl ⟨by decide, rfl⟩ ⟨by decide, by decide⟩ (by decide) (Nat.le_of_ble_eq_true rfl) (by decide) rfl ?_
    rintro z9 h9 ⟨q1, q2⟩
    rw [q1, q2]
    clear q1 q2 z9 h9
    refine x_Vv 22 (pX5_useLine (h 255 9 / (2 ^ k : Nat)) k hP hR hl9 hk hk4) FX5_useLine VX5_useLine CX5_87 (xd DX5_takeStep rfl) rfl rfl rfl ⟨by decide, rfl⟩ ⟨by decide, by decide⟩ (by decide) (Nat.le_of_ble_eq_true rfl) (by decide) rfl ?_
    rintro h9 q2
    rw [q2]
    clear q2 h9
    first | exact j22 (by unfold stpA; rw [pik_t c4]) | exact j22 (by unfold stpA; rw [pik_f (fun q => q c4)])
end
section
/-! Run: what stays so by a step; many steps -/
def RWx (h : XH) : Prop := (h 255 5 = 0 ∨ h 255 5 = 1) ∧ (h 255 6 = 0 ∨ h 255 6 = 1) ∧ (h 255 7 = 0 ∨ h 255 7 = 1) ∧ (h 255 8 = 0 ∨ h 255 8 = 1) ∧ xrg (h 255 10) ∧ (0 ≤ h 255 12 ∧ h 255 12 ≤ 12) ∧ (1 ≤ h 255 13 ∧ h 255 13 ≤ 4) ∧ (0 ≤ h 255 14 ∧ h 255 14 ≤ h 255 13) ∧ (∀ j, 0 ≤ j → j < 10 → xrg (h 256 j)) ∧ ∀ j, 0 ≤ j → j < h 255 14 → xrg (h 258 j)
theorem RW.x {h : XH} (hR : RW h) : RWx h := by
  obtain ⟨r5, r6, r7, r8, r9, r10, r12, r13, r14, r256, r258⟩ := hR
  exact ⟨r5, r6, r7, r8, r10, r12, r13, r14, r256, r258⟩
theorem RWx.w {h : XH} (hR : RWx h) (h9 : h 255 6 = 0 → 0 ≤ h 255 9 ∧ h 255 9 < h 4 3) : RW h := by
  obtain ⟨r5, r6, r7, r8, r10, r12, r13, r14, r256, r258⟩ := hR
  exact ⟨r5, r6, r7, r8, h9, r10, r12, r13, r14, r256, r258⟩
theorem RWx.s {h : XH} {j z : Int} (hR : RWx h) (hj : j = 9 ∨ j = 11 ∨ (j = 6 ∧ (z = 0 ∨ z = 1)) ∨ (j = 8 ∧ (z = 0 ∨ z = 1)) ∨ (j = 10 ∧ xrg z) ∨ (j = 12 ∧ 0 ≤ z ∧ z ≤ 12)) : RWx (hset h 255 j z) := by
  obtain ⟨r5, r6, r7, r8, r10, r12, r13, r14, r256, r258⟩ := hR
  unfold RWx
  rw [hset_c (d := 256) (c := 255) (by decide), hset_c (d := 258) (c := 255) (by decide)]
  rcases hj with e | e | ⟨e, e2⟩ | ⟨e, e2⟩ | ⟨e, e2⟩ | ⟨e, e2⟩ <;> subst e
  · rw [hset_i (j := 5) (by decide), hset_i (j := 6) (by decide), hset_i (j := 7) (by decide), hset_i (j := 8) (by decide), hset_i (j := 10) (by decide), hset_i (j := 12) (by decide), hset_i (j := 13) (by decide), hset_i (j := 14) (by decide)]
    exact ⟨r5, r6, r7, r8, r10, r12, r13, r14, r256, r258⟩
  · rw [hset_i (j := 5) (by decide), hset_i (j := 6) (by decide), hset_i (j := 7) (by decide), hset_i (j := 8) (by decide), hset_i (j := 10) (by decide), hset_i (j := 12) (by decide), hset_i (j := 13) (by decide), hset_i (j := 14) (by decide)]
    exact ⟨r5, r6, r7, r8, r10, r12, r13, r14, r256, r258⟩
  · rw [hset_i (j := 5) (by decide), hset_s, hset_i (j := 7) (by decide), hset_i (j := 8) (by decide), hset_i (j := 10) (by decide), hset_i (j := 12) (by decide), hset_i (j := 13) (by decide), hset_i (j := 14) (by decide)]
    exact ⟨r5, e2, r7, r8, r10, r12, r13, r14, r256, r258⟩
  · rw [hset_i (j := 5) (by decide), hset_i (j := 6) (by decide), hset_i (j := 7) (by decide), hset_s, hset_i (j := 10) (by decide), hset_i (j := 12) (by decide), hset_i (j := 13) (by decide), hset_i (j := 14) (by decide)]
    exact ⟨r5, r6, r7, e2, r10, r12, r13, r14, r256, r258⟩
  · rw [hset_i (j := 5) (by decide), hset_i (j := 6) (by decide), hset_i (j := 7) (by decide), hset_i (j := 8) (by decide), hset_s, hset_i (j := 12) (by decide), hset_i (j := 13) (by decide), hset_i (j := 14) (by decide)]
    exact ⟨r5, r6, r7, r8, e2, r12, r13, r14, r256, r258⟩
  · rw [hset_i (j := 5) (by decide), hset_i (j := 6) (by decide), hset_i (j := 7) (by decide), hset_i (j := 8) (by decide), hset_i (j := 10) (by decide), hset_s, hset_i (j := 13) (by decide), hset_i (j := 14) (by decide)]
    exact ⟨r5, r6, r7, r8, r10, e2, r13, r14, r256, r258⟩
theorem RWx.c {h : XH} {j z : Int} (hR : RWx h) (hz : xrg z) : RWx (hset h 256 j z) := by
  obtain ⟨r5, r6, r7, r8, r10, r12, r13, r14, r256, r258⟩ := hR
  unfold RWx
  rw [hset_c (d := 255) (c := 256) (by decide), hset_c (d := 258) (c := 256) (by decide)]
  refine ⟨r5, r6, r7, r8, r10, r12, r13, r14, fun x a b => ?_, r258⟩
  by_cases q : x = j
  · subst q; rw [hset_s]; exact hz
  · rw [hset_i q]; exact r256 x a b
theorem RWx.o {h : XH} {j z : Int} (hR : RWx h) : RWx (hset h 257 j z) := by
  obtain ⟨r5, r6, r7, r8, r10, r12, r13, r14, r256, r258⟩ := hR
  unfold RWx
  rw [hset_c (d := 255) (c := 257) (by decide), hset_c (d := 256) (c := 257) (by decide), hset_c (d := 258) (c := 257) (by decide)]
  exact ⟨r5, r6, r7, r8, r10, r12, r13, r14, r256, r258⟩
theorem RWx.use {h : XH} {k : Nat} {l : Int} (hR : RWx h) (hl : xrg l) : RWx (useH h k l) := by
  obtain ⟨r5, r6, r7, r8, r10, r12, r13, r14, r256, r258⟩ := hR
  unfold RWx
  have u := fun j a b c => useH_255 h k l (j := j) a b c
  rw [u 5 (by decide) (by decide) (by decide), u 6 (by decide) (by decide) (by decide), u 7 (by decide) (by decide) (by decide), u 8 (by decide) (by decide) (by decide), u 10 (by decide) (by decide) (by decide), u 12 (by decide) (by decide) (by decide), u 13 (by decide) (by decide) (by decide), useH_row h k l (c := 256) (Or.inl rfl)]
  have hq := fP_rg (fun j => h 258 j = l) (h 255 14).toNat 0
  have e14 : useH h k l 255 14 = hldM h k l 255 14 := by unfold useH; rw [rset_c (by decide)]
  have e258 : useH h k l 258 = fun j => if j = 0 then l else if 0 < j ∧ j ≤ hldQ h l then h 258 (j - 1) else h 258 j := by unfold useH; rw [rset_s]
  rw [e14, e258]
  have q9 : (0 ≤ hldP h l ∧ hldM h k l 255 14 = h 255 14 ∧ hldQ h l = hldP h l ∧ hldP h l < h 255 14) ∨ (hldM h k l 255 14 = (if h 255 13 < h 255 14 + 1 then h 255 13 else h 255 14 + 1) ∧ hldQ h l = (if h 255 13 < h 255 14 + 1 then h 255 13 else h 255 14 + 1) - 1) := by
    by_cases q : 0 ≤ hldP h l
    · left
      refine ⟨q, ?_, ?_, ?_⟩
      · unfold hldM; rw [pik_t q]
      · unfold hldQ; rw [pik_t q]
      · unfold hldP at *; omega
    · right
      refine ⟨?_, ?_⟩
      · unfold hldM; rw [pik_f q, hset_s]
      · unfold hldQ; rw [pik_f q]
  refine ⟨r5, r6, r7, r8, r10, r12, r13, by split at q9 <;> omega, r256, fun j a b => ?_⟩
  show xrg (if j = 0 then l else if 0 < j ∧ j ≤ hldQ h l then h 258 (j - 1) else h 258 j)
  by_cases z0 : j = 0
  · rw [if_pos z0]; exact hl
  · rw [if_neg z0]
    by_cases z1 : 0 < j ∧ j ≤ hldQ h l
    · rw [if_pos z1]
      exact r258 (j - 1) (by omega) (by split at q9 <;> omega)
    · rw [if_neg z1]
      exact r258 j a (by split at q9 <;> omega)
theorem xxor_any (a b : Int) : xrg (xxor a b) := by
  unfold xxor
  exact ⟨(Int32.ofInt a ^^^ Int32.ofInt b).le_toInt, (Int32.ofInt a ^^^ Int32.ofInt b).toInt_lt⟩
theorem mod_rg (a : Int) : xrg (a % 65536) := by
  have := Int.emod_nonneg a (show (65536 : Int) ≠ 0 by decide)
  have := Int.emod_lt_of_pos a (show (0 : Int) < 65536 by decide)
  omega
theorem RWx.wk {h : XH} {kd v : Int} (hR : RWx h) (hv : 0 ≤ v ∧ v ≤ 9) (h6 : kd = 6 → h 255 12 < 12) (hkd : 0 ≤ kd ∧ kd ≤ 6) : RWx (wkH h kd v) := by
  have hR' := hR
  obtain ⟨r5, r6, r7, r8, r10, r12, r13, r14, r256, r258⟩ := hR'
  unfold wkH
  split
  · exact hR.s (by right; right; right; right; left; exact ⟨rfl, mod_rg _⟩)
  split
  · exact hR.s (by right; right; right; right; left; exact ⟨rfl, mod_rg _⟩)
  split
  · exact hR.s (by right; right; right; right; left; exact ⟨rfl, xxor_any _ _⟩)
  split
  · exact hR.c r10
  split
  · exact hR.s (by right; right; right; right; left; exact ⟨rfl, r256 v hv.1 (by omega)⟩)
  split
  · exact hR.s (by right; right; right; right; left; exact ⟨rfl, mod_rg _⟩)
  · unfold tellH
    have k6 := h6 (by omega)
    exact (hR.o (j := h 255 12) (z := (h 255 10 + v) % 65536)).s (by omega)
theorem adr_rg {h : XH} (ha : ∀ j, 0 ≤ j → j < h 4 3 → xrg (h 251 j)) {i : Int} (hi : xrg i) : xrg (adr h i) := by
  unfold adr
  by_cases q : h 255 7 ≠ 0 ∧ 0 ≤ i ∧ i < h 4 3
  · rw [pik_t q]; exact ha i q.2.1 q.2.2
  · rw [pik_f q]; exact hi
theorem RWx.jmp {h : XH} (hR : RWx h) : RWx (jmpH h) := by
  unfold jmpH
  by_cases q : 0 ≤ fP (jmpP h) 0 (h 4 3).toNat
  · rw [pik_t q]; exact hR.s (Or.inl rfl)
  · rw [pik_f q]; exact (hR.s (j := 8) (z := 1) (by omega)).s (by omega)
theorem RWx.trn {h : XH} {kd t : Int} (hR : RWx h) (ha : ∀ j, 0 ≤ j → j < h 4 3 → xrg (h 251 j)) (ht : xrg t) : RWx (trnH h kd t) := by
  unfold trnH
  split
  · exact hR.s (Or.inl rfl)
  split
  · exact hR.s (Or.inl rfl)
  split
  · exact hR.s (by right; right; right; right; left; exact ⟨rfl, adr_rg ha ht⟩)
  split
  · exact hR.jmp
  · exact hR.s (by omega)
theorem stp_RW {h : XH} {k : Nat} (hP : PW h) (hR : RW h) (hn : h 255 6 = 0) (h6 : h 5 (h 255 9) = 6 → h 255 12 < 12) (ha : ∀ j, 0 ≤ j → j < h 4 3 → xrg (h 251 j)) : RW (stpH h k) ∧ xrg (stpC h k 255 9) := by
  have hP1 := hP.1
  obtain ⟨h0, h1⟩ := hR.2.2.2.2.1 hn
  have hv := hP.v h0 h1
  have hp : (0 : Int) < ((2 ^ k : Nat) : Int) := Int.natCast_pos.mpr (Nat.two_pow_pos k)
  have hA : RWx (stpA h k) := by
    unfold stpA
    by_cases q : h 255 7 ≠ 0
    · rw [pik_t q]
      exact hR.x.use ⟨Int.le_trans (by decide) (Int.ediv_nonneg h0 (Int.le_of_lt hp)), by have := Int.ediv_le_self (a := h 255 9) ((2 ^ k : Nat) : Int) h0; omega⟩
    · rw [pik_f q]; exact hR.x
  have hB : RWx (stpB h k) := (hA.s (j := 11) (by omega)).s (Or.inl rfl)
  have b9 : stpB h k 255 9 = h 255 9 + 1 := by unfold stpB; rw [hset_s]
  have b12 : stpB h k 255 12 = h 255 12 := by unfold stpB; rw [hset_i (by decide), hset_i (by decide)]; exact stpA_255 h k (by decide) (by decide) (by decide)
  have B := stpB_off h k
  have B4 : stpB h k 4 = h 4 := B 4 (by unfold SRu; omega)
  have B5 : stpB h k 5 = h 5 := B 5 (by unfold SRu; omega)
  have B6 : stpB h k 6 = h 6 := B 6 (by unfold SRu; omega)
  have B251 : stpB h k 251 = h 251 := B 251 (by unfold SRu; omega)
  have hC : RWx (stpC h k) := by
    unfold stpC
    by_cases q : 0 ≤ h 5 (h 255 9) ∧ h 5 (h 255 9) ≤ 6
    · rw [if_pos q]
      exact hB.wk ((hP.2 _ h0 h1).2.1 q.2) (fun z => by rw [b12]; exact h6 z) q
    · rw [if_neg q]
      exact hB.trn (by rw [B251, B4]; exact ha) (by omega)
  have c9 : xrg (stpC h k 255 9) := by
    unfold stpC
    by_cases q : 0 ≤ h 5 (h 255 9) ∧ h 5 (h 255 9) ≤ 6
    · rw [if_pos q]
      have : wkH (stpB h k) (h 5 (h 255 9)) (h 6 (h 255 9)) 255 9 = h 255 9 + 1 := by
        unfold wkH tellH
        (repeat' split) <;> first | (rw [hset_i (by decide), b9]) | (rw [hset_c (by decide), b9]) | (rw [hset_i (by decide), hset_c (by decide), b9])
      rw [this]; omega
    · rw [if_neg q]
      unfold trnH
      split
      · rw [hset_s]; omega
      split
      · rw [hset_s, b9]; split <;> omega
      split
      · rw [hset_i (by decide), b9]; omega
      split
      · unfold jmpH
        rw [B4, B6]
        have f9 := fP_rg (jmpP (stpB h k)) (h 4 3).toNat 0
        by_cases q2 : 0 ≤ fP (jmpP (stpB h k)) 0 (h 4 3).toNat
        · rw [pik_t q2, hset_s]
          have := hP.v (i := fP (jmpP (stpB h k)) 0 (h 4 3).toNat) q2 (by omega)
          omega
        · rw [pik_f q2, hset_i (by decide), hset_i (by decide), b9]; omega
      · rw [hset_i (by decide), b9]; omega
  refine ⟨?_, c9⟩
  have C4 : stpC h k 4 = h 4 := stpC_off h k 4 (by unfold SRu; omega)
  unfold stpH
  by_cases q : 0 ≤ stpC h k 255 9 ∧ stpC h k 255 9 < h 4 3
  · rw [pik_t q]
    exact hC.w (fun _ => by rw [C4]; exact q)
  · rw [pik_f q]
    exact (hC.s (j := 6) (z := 1) (by omega)).w (fun z => by rw [hset_s] at z; exact absurd z (by decide))
noncomputable def goH (h : XH) (k : Nat) : Nat → XH
  | 0 => h
  | m + 1 => pik (h 255 6 = 0) (pik (h 5 (h 255 9) = 6 ∧ h 255 12 = 12) (hset h 255 6 1) (goH (stpH h k) k m)) h
set_option maxRecDepth 100000 in
set_option maxHeartbeats 4000000 in
theorem pX5_go {K : XK} {n : Nat} {h : XH} (c : Int) (k : Nat) (hc : 1 ≤ c ∧ c ≤ 400) (hP : PW h) (hR : RW h) (hk : h 192 15 = (k : Int)) (hk4 : k ≤ 4) (ha : ∀ j, 0 ≤ j → j < h 4 3 → xrg (h 251 j)) : MI K mX5_go 5 n [vr 255, vi c] h (fun z h' => h' = goH h k c.toNat ∧ z = h' 255 11 - h 255 11) := by
  refine xMeth FX5_go (Nat.le_of_ble_eq_true rfl) ?_
  have hP1 := hP.1
  have loop : ∀ (m : Nat) (xi : Nat) (xg : XH), (xi : Int) ≤ c → c - xi < (m : Int) → Off SRu h xg → RW xg → goH xg k (c.toNat - xi) = goH h k c.toNat → WI K mX5_go 5 n (qI n fun z h' => h' = goH h k c.toNat ∧ z = h' 255 11 - h 255 11) 7 [(0, vr 255), (1, vi c), (2, vi (h 255 11)), (3, vi (xi : Int))] [] xg := by
    intro m
    induction m with
    | zero => intro xi xg a b; exact absurd b (by omega)
    | succ m ih =>
      intro xi xg h0 hm hO hR hf
      have e4 : xg 4 = h 4 := hO 4 (by unfold SRu; omega)
      have e43 : xg 4 3 = h 4 3 := by rw [e4]
      have Pg : PW xg := hP.off hO (by unfold SRu; omega) (by unfold SRu; omega) (by unfold SRu; omega) (by unfold SRu; omega)
      refine x_iload_n 8 (xd DX5_go rfl) rfl rfl ?_
      refine x_iload_n 9 (xd DX5_go rfl) rfl rfl ?_
      refine x_icmp_ge 12 63 (xd DX5_go rfl) rfl (by omega) (by omega) rfl (fun c9 => ?_) (fun c9 => ?_)
      · refine x_aload_n 64 (xd DX5_go rfl) rfl rfl ?_
        refine x_gi 67 11 rfl LX5_49 (xd DX5_go rfl) rfl ⟨Or.inr ⟨rfl, by decide⟩, by decide⟩ rfl ?_
        refine x_iload_n 68 (xd DX5_go rfl) rfl rfl ?_
        refine x_isub 69 (xd DX5_go rfl) rfl ?_
        refine x_ri (xd DX5_go rfl) rfl ?_
        refine ⟨?_, rfl⟩
        rw [← hf]
        first
          | (rw [show c.toNat - xi = 0 by omega]; rfl)
          | (rw [show c.toNat - xi = (c.toNat - xi - 1) + 1 by omega]; unfold goH; rw [pik_f c16])
      · refine x_aload_n 13 (xd DX5_go rfl) rfl rfl ?_
        refine x_gz 16 6 rfl LX5_33 (xd DX5_go rfl) rfl ⟨Or.inr ⟨rfl, by decide⟩, by decide⟩ rfl ?_
        refine x_if_ne 19 63 (xd DX5_go rfl) rfl (by have := hR.2.1; omega) rfl (fun c16 => ?_) (fun c16 => ?_)
        · refine x_aload_n 64 (xd DX5_go rfl) rfl rfl ?_
          refine x_gi 67 11 rfl LX5_49 (xd DX5_go rfl) rfl ⟨Or.inr ⟨rfl, by decide⟩, by decide⟩ rfl ?_
          refine x_iload_n 68 (xd DX5_go rfl) rfl rfl ?_
          refine x_isub 69 (xd DX5_go rfl) rfl ?_
          refine x_ri (xd DX5_go rfl) rfl ?_
          refine ⟨?_, rfl⟩
          rw [← hf]
          first
            | (rw [show c.toNat - xi = 0 by omega]; rfl)
            | (rw [show c.toNat - xi = (c.toNat - xi - 1) + 1 by omega]; unfold goH; rw [pik_f c16])
        · have nx := hR.2.2.2.2.1 c16
          have hv := Pg.v nx.1 nx.2
          refine x_aload_n 20 (xd DX5_go rfl) rfl rfl ?_
          refine x_gr 23 _ LX5_21 (xd DX5_go rfl) rfl rfl ⟨by decide, by decide⟩ (by decide) rfl rfl ?_
          refine x_gr 26 _ LX5_73 (xd DX5_go rfl) rfl rfl ⟨by decide, by decide⟩ (by decide) rfl rfl ?_
          refine x_aload_n 27 (xd DX5_go rfl) rfl rfl ?_
          refine x_gi 30 9 rfl LX5_42 (xd DX5_go rfl) rfl ⟨Or.inr ⟨rfl, by decide⟩, by decide⟩ rfl ?_
          refine x_iaload 31 (xd DX5_go rfl) rfl ⟨Or.inr ⟨rfl, by decide⟩, by decide⟩ (by decide) (by omega) (by omega) rfl ?_
          refine x_bipush 33 (xd DX5_go rfl) rfl rfl ?_
          refine x_icmp_ne 36 53 (xd DX5_go rfl) rfl (by omega) (by omega) rfl (fun c33 => ?_) (fun c33 => ?_)
          · refine x_aload_n 54 (xd DX5_go rfl) rfl rfl ?_
            have h612 : xg 5 (xg 255 9) = 6 → xg 255 12 < 12 := fun q => by first | (exact absurd q (by omega)) | (have := hR.2.2.2.2.2.2.1; omega)
            refine x_Vv 57 (pX5_takeStep k Pg hR c16 h612 (by rw [hO 192 (by unfold SRu; omega)]; exact hk) hk4 (by rw [hO 251 (by unfold SRu; omega), e4]; exact ha) (stp_RW Pg hR c16 h612 (by rw [hO 251 (by unfold SRu; omega), e4]; exact ha)).2) FX5_takeStep VX5_takeStep CX5_78 (xd DX5_go rfl) rfl rfl rfl ⟨by decide, rfl⟩ ⟨by decide, by decide⟩ (by decide) (Nat.le_of_ble_eq_true rfl) (by decide) rfl ?_
            rintro h9 q2
            rw [q2]
            clear q2 h9
            refine x_iinc 60 (L' := [(0, _), (1, _), (2, _), (3, _)]) (xd DX5_go rfl) rfl (by decide) rfl rfl rfl ?_
            refine x_goto 7 (xd DX5_go rfl) rfl ?_
            first
              | (refine ih (xi + 1) _ (by omega) (by omega) (hO.tr o255) ((hR.x.s (j := 6) (z := 1) (by omega)).w (fun z => by rw [hset_s] at z; exact absurd z (by decide))) ?_
                 rw [← hf, show c.toNat - xi = (c.toNat - (xi + 1)) + 1 by omega]
                 conv => rhs; unfold goH
                 rw [pik_t c16, pik_t ⟨c33, c42⟩]
                 cases c.toNat - (xi + 1) with
                 | zero => rfl
                 | succ d => unfold goH; rw [pik_f (by rw [hset_s]; decide)])
              | (refine ih (xi + 1) _ (by omega) (by omega) (hO.tr (stpH_off xg k)) (stp_RW Pg hR c16 h612 (by rw [hO 251 (by unfold SRu; omega), e4]; exact ha)).1 ?_
                 rw [← hf, show c.toNat - xi = (c.toNat - (xi + 1)) + 1 by omega]
                 conv => rhs; unfold goH
                 rw [pik_t c16, pik_f (fun q => by first | exact c33 q.1 | exact c42 q.2)])
          · refine x_aload_n 37 (xd DX5_go rfl) rfl rfl ?_
            refine x_gi 40 12 rfl LX5_52 (xd DX5_go rfl) rfl ⟨Or.inr ⟨rfl, by decide⟩, by decide⟩ rfl ?_
            refine x_bipush 42 (xd DX5_go rfl) rfl rfl ?_
            refine x_icmp_ne 45 53 (xd DX5_go rfl) rfl (by have := hR.2.2.2.2.2.2.1; omega) (by have := hR.2.2.2.2.2.2.1; omega) rfl (fun c42 => ?_) (fun c42 => ?_)
            · refine x_aload_n 54 (xd DX5_go rfl) rfl rfl ?_
              have h612 : xg 5 (xg 255 9) = 6 → xg 255 12 < 12 := fun q => by first | (exact absurd q (by omega)) | (have := hR.2.2.2.2.2.2.1; omega)
              refine x_Vv 57 (pX5_takeStep k Pg hR c16 h612 (by rw [hO 192 (by unfold SRu; omega)]; exact hk) hk4 (by rw [hO 251 (by unfold SRu; omega), e4]; exact ha) (stp_RW Pg hR c16 h612 (by rw [hO 251 (by unfold SRu; omega), e4]; exact ha)).2) FX5_takeStep VX5_takeStep CX5_78 (xd DX5_go rfl) rfl rfl rfl ⟨by decide, rfl⟩ ⟨by decide, by decide⟩ (by decide) (Nat.le_of_ble_eq_true rfl) (by decide) rfl ?_
              rintro h9 q2
              rw [q2]
              clear q2 h9
              refine x_iinc 60 (L' := [(0, _), (1, _), (2, _), (3, _)]) (xd DX5_go rfl) rfl (by decide) rfl rfl rfl ?_
              refine x_goto 7 (xd DX5_go rfl) rfl ?_
              first
                | (refine ih (xi + 1) _ (by omega) (by omega) (hO.tr o255) ((hR.x.s (j := 6) (z := 1) (by omega)).w (fun z => by rw [hset_s] at z; exact absurd z (by decide))) ?_
                   rw [← hf, show c.toNat - xi = (c.toNat - (xi + 1)) + 1 by omega]
                   conv => rhs; unfold goH
                   rw [pik_t c16, pik_t ⟨c33, c42⟩]
                   cases c.toNat - (xi + 1) with
                   | zero => rfl
                   | succ d => unfold goH; rw [pik_f (by rw [hset_s]; decide)])
                | (refine ih (xi + 1) _ (by omega) (by omega) (hO.tr (stpH_off xg k)) (stp_RW Pg hR c16 h612 (by rw [hO 251 (by unfold SRu; omega), e4]; exact ha)).1 ?_
                   rw [← hf, show c.toNat - xi = (c.toNat - (xi + 1)) + 1 by omega]
                   conv => rhs; unfold goH
                   rw [pik_t c16, pik_f (fun q => by first | exact c33 q.1 | exact c42 q.2)])
            · refine x_aload_n 46 (xd DX5_go rfl) rfl rfl ?_
              refine x_iconst 47 (xd DX5_go rfl) rfl ?_
              refine x_pz 50 6 rfl LX5_33 (xd DX5_go rfl) rfl rfl ⟨Or.inr ⟨rfl, by decide⟩, by decide⟩ (by omega) rfl ?_
              refine x_goto 57 (xd DX5_go rfl) rfl ?_
              refine x_iinc 60 (L' := [(0, _), (1, _), (2, _), (3, _)]) (xd DX5_go rfl) rfl (by decide) rfl rfl rfl ?_
              refine x_goto 7 (xd DX5_go rfl) rfl ?_
              first
                | (refine ih (xi + 1) _ (by omega) (by omega) (hO.tr o255) ((hR.x.s (j := 6) (z := 1) (by omega)).w (fun z => by rw [hset_s] at z; exact absurd z (by decide))) ?_
                   rw [← hf, show c.toNat - xi = (c.toNat - (xi + 1)) + 1 by omega]
                   conv => rhs; unfold goH
                   rw [pik_t c16, pik_t ⟨c33, c42⟩]
                   cases c.toNat - (xi + 1) with
                   | zero => rfl
                   | succ d => unfold goH; rw [pik_f (by rw [hset_s]; decide)])
                | (refine ih (xi + 1) _ (by omega) (by omega) (hO.tr (stpH_off xg k)) (stp_RW Pg hR c16 h612 (by rw [hO 251 (by unfold SRu; omega), e4]; exact ha)).1 ?_
                   rw [← hf, show c.toNat - xi = (c.toNat - (xi + 1)) + 1 by omega]
                   conv => rhs; unfold goH
                   rw [pik_t c16, pik_f (fun q => by first | exact c33 q.1 | exact c42 q.2)])
  refine x_aload_n 1 (xd DX5_go rfl) rfl rfl ?_
  refine x_gi 4 11 rfl LX5_49 (xd DX5_go rfl) rfl ⟨Or.inr ⟨rfl, by decide⟩, by decide⟩ rfl ?_
  refine x_istore_n 5 (L' := [(0, _), (1, _), (2, _)]) (xd DX5_go rfl) (by decide) rfl rfl rfl ?_
  refine x_iconst 6 (xd DX5_go rfl) rfl ?_
  refine x_istore_n 7 (L' := [(0, _), (1, _), (2, _), (3, _)]) (xd DX5_go rfl) (by decide) rfl rfl rfl ?_
  exact loop 1000 0 h (by omega) (by omega) Off.rf hR rfl
end
section
/-! Run: begin, tell -/
def SBg (x : Nat) : Prop := x = 255 ∨ x = 256
def Begun (h' : XH) (sq mh : Int) : Prop := h' 255 5 = 1 ∧ h' 255 6 = 0 ∧ h' 255 7 = sq ∧ h' 255 8 = 0 ∧ h' 255 9 = 0 ∧ h' 255 10 = 0 ∧ h' 255 11 = 0 ∧ h' 255 12 = 0 ∧ h' 255 13 = mh ∧ h' 255 14 = 0 ∧ h' 255 15 = 0 ∧ h' 255 16 = 0
def tellF (h : XH) (w : Int) : Int :=
  if w = 0 then (if h 255 6 = 0 then h 255 9 else -4) else if w = 1 then h 255 10 else if w = 2 then h 255 11 else if w = 3 then h 255 12 else if w = 4 then (if h 255 8 = 0 then 0 else 1)
  else if w = 5 then h 255 15 else if w = 6 then h 255 16 else if w = 7 then h 255 14 else (if h 255 7 = 0 then 0 else 1)
set_option maxRecDepth 100000 in
set_option maxHeartbeats 4000000 in
theorem pX5_begin {K : XK} {n : Nat} {h : XH} (sq mh : Int) (hq : sq = 0 ∨ sq = 1) (hm : 1 ≤ mh ∧ mh ≤ 4) : MV K mX5_begin 2 n [vr 255, vi sq, vi mh] h (fun h' => Off SBg h h' ∧ Begun h' sq mh ∧ ∀ j, 0 ≤ j → j < 10 → h' 256 j = 0) := by
  refine xMeth FX5_begin (Nat.le_of_ble_eq_true rfl) ?_
  have loop : ∀ (m : Nat) (xk : Nat) (xg : XH), (xk : Int) ≤ 10 → 10 - xk < (m : Int) → Off SBg h xg → Begun xg sq mh → (∀ j, 0 ≤ j → j < (xk : Int) → xg 256 j = 0) → WI K mX5_begin 2 n (qV n fun h' => Off SBg h h' ∧ Begun h' sq mh ∧ ∀ j, 0 ≤ j → j < 10 → h' 256 j = 0) 66 [(0, vr 255), (1, vi sq), (2, vi mh), (3, vi (xk : Int))] [] xg := by
    intro m
    induction m with
    | zero => intro xk xg a b; exact absurd b (by omega)
    | succ m ih =>
      intro xk xg h0 hm1 hO hB hk
      refine x_iload_n 67 (xd DX5_begin rfl) rfl rfl ?_
      refine x_bipush 69 (xd DX5_begin rfl) rfl rfl ?_
      refine x_icmp_ge 72 85 (xd DX5_begin rfl) rfl (by omega) (by omega) rfl (fun c69 => ?_) (fun c69 => ?_)
      · refine x_rv (xd DX5_begin rfl) rfl ?_
        exact ⟨hO, hB, fun j a b => hk j a (by omega)⟩
      · refine x_aload_n 73 (xd DX5_begin rfl) rfl rfl ?_
        refine x_gr 76 _ LX5_9 (xd DX5_begin rfl) rfl rfl ⟨by decide, by decide⟩ (by decide) rfl rfl ?_
        refine x_iload_n 77 (xd DX5_begin rfl) rfl rfl ?_
        refine x_iconst 78 (xd DX5_begin rfl) rfl ?_
        refine x_iastore 79 (xd DX5_begin rfl) rfl ⟨Or.inr ⟨rfl, by decide⟩, by decide⟩ (by decide) (by omega) (by omega) rfl ?_
        refine x_iinc 82 (L' := [(0, _), (1, _), (2, _), (3, _)]) (xd DX5_begin rfl) rfl (by decide) rfl rfl rfl ?_
        refine x_goto 66 (xd DX5_begin rfl) rfl ?_
        refine ih (xk + 1) _ (by omega) (by omega) (hO.tr (Off.set (by unfold SBg; omega))) ?_ (fun j a b => ?_)
        · unfold Begun at *
          rw [hset_c (d := 255) (c := 256) (by decide)]
          exact hB
        · by_cases q : j = (xk : Int)
          · subst q; exact hset_s
          · rw [hset_i q]; exact hk j a (by omega)
  refine x_aload_n 1 (xd DX5_begin rfl) rfl rfl ?_
  refine x_iconst 2 (xd DX5_begin rfl) rfl ?_
  refine x_pz 5 5 rfl LX5_29 (xd DX5_begin rfl) rfl rfl ⟨Or.inr ⟨rfl, by decide⟩, by decide⟩ (by omega) rfl ?_
  refine x_aload_n 6 (xd DX5_begin rfl) rfl rfl ?_
  refine x_iconst 7 (xd DX5_begin rfl) rfl ?_
  refine x_pz 10 6 rfl LX5_33 (xd DX5_begin rfl) rfl rfl ⟨Or.inr ⟨rfl, by decide⟩, by decide⟩ (by omega) rfl ?_
  refine x_aload_n 11 (xd DX5_begin rfl) rfl rfl ?_
  refine x_iload_n 12 (xd DX5_begin rfl) rfl rfl ?_
  refine x_pz 15 7 rfl LX5_36 (xd DX5_begin rfl) rfl rfl ⟨Or.inr ⟨rfl, by decide⟩, by decide⟩ (by omega) rfl ?_
  refine x_aload_n 16 (xd DX5_begin rfl) rfl rfl ?_
  refine x_iconst 17 (xd DX5_begin rfl) rfl ?_
  refine x_pz 20 8 rfl LX5_39 (xd DX5_begin rfl) rfl rfl ⟨Or.inr ⟨rfl, by decide⟩, by decide⟩ (by omega) rfl ?_
  refine x_aload_n 21 (xd DX5_begin rfl) rfl rfl ?_
  refine x_iconst 22 (xd DX5_begin rfl) rfl ?_
  refine x_pi 25 9 rfl LX5_42 (xd DX5_begin rfl) rfl rfl ⟨Or.inr ⟨rfl, by decide⟩, by decide⟩ rfl ?_
  refine x_aload_n 26 (xd DX5_begin rfl) rfl rfl ?_
  refine x_iconst 27 (xd DX5_begin rfl) rfl ?_
  refine x_pi 30 10 rfl LX5_46 (xd DX5_begin rfl) rfl rfl ⟨Or.inr ⟨rfl, by decide⟩, by decide⟩ rfl ?_
  refine x_aload_n 31 (xd DX5_begin rfl) rfl rfl ?_
  refine x_iconst 32 (xd DX5_begin rfl) rfl ?_
  refine x_pi 35 11 rfl LX5_49 (xd DX5_begin rfl) rfl rfl ⟨Or.inr ⟨rfl, by decide⟩, by decide⟩ rfl ?_
  refine x_aload_n 36 (xd DX5_begin rfl) rfl rfl ?_
  refine x_iconst 37 (xd DX5_begin rfl) rfl ?_
  refine x_pi 40 12 rfl LX5_52 (xd DX5_begin rfl) rfl rfl ⟨Or.inr ⟨rfl, by decide⟩, by decide⟩ rfl ?_
  refine x_aload_n 41 (xd DX5_begin rfl) rfl rfl ?_
  refine x_iload_n 42 (xd DX5_begin rfl) rfl rfl ?_
  refine x_iconst 43 (xd DX5_begin rfl) rfl ?_
  refine x_min 46 mmLX5_55 mmS mmI mmC (xd DX5_begin rfl) ⟨by decide, Nat.le_refl _, Nat.le_refl _⟩ (Nat.le_of_ble_eq_true rfl) (by omega) (by omega) rfl ?_
  rw [show (if (4 : Int) < mh then 4 else mh) = mh by split <;> omega]
  refine x_pi 49 13 rfl LX5_61 (xd DX5_begin rfl) rfl rfl ⟨Or.inr ⟨rfl, by decide⟩, by decide⟩ rfl ?_
  refine x_aload_n 50 (xd DX5_begin rfl) rfl rfl ?_
  refine x_iconst 51 (xd DX5_begin rfl) rfl ?_
  refine x_pi 54 14 rfl LX5_64 (xd DX5_begin rfl) rfl rfl ⟨Or.inr ⟨rfl, by decide⟩, by decide⟩ rfl ?_
  refine x_aload_n 55 (xd DX5_begin rfl) rfl rfl ?_
  refine x_iconst 56 (xd DX5_begin rfl) rfl ?_
  refine x_pi 59 15 rfl LX5_67 (xd DX5_begin rfl) rfl rfl ⟨Or.inr ⟨rfl, by decide⟩, by decide⟩ rfl ?_
  refine x_aload_n 60 (xd DX5_begin rfl) rfl rfl ?_
  refine x_iconst 61 (xd DX5_begin rfl) rfl ?_
  refine x_pi 64 16 rfl LX5_70 (xd DX5_begin rfl) rfl rfl ⟨Or.inr ⟨rfl, by decide⟩, by decide⟩ rfl ?_
  refine x_iconst 65 (xd DX5_begin rfl) rfl ?_
  refine x_istore_n 66 (L' := [(0, _), (1, _), (2, _), (3, _)]) (xd DX5_begin rfl) (by decide) rfl rfl rfl ?_
  refine loop 100 0 _ (by omega) (by omega) ?_ ?_ (fun j a b => absurd b (by omega))
  · intro x hx
    have h255 : x ≠ 255 := fun q => hx (Or.inl q)
    rw [hset_c h255, hset_c h255, hset_c h255, hset_c h255, hset_c h255, hset_c h255, hset_c h255, hset_c h255, hset_c h255, hset_c h255, hset_c h255, hset_c h255]
  · unfold Begun hset
    simp

set_option maxRecDepth 100000 in
set_option maxHeartbeats 4000000 in
theorem pX5_tell {K : XK} {n : Nat} {h : XH} (w : Int) (hw : 0 ≤ w ∧ w ≤ 8) (hR : RW h) : MI K mX5_tell 0 n [vr 255, vi w] h (fun z h' => z = tellF h w ∧ h' = h) := by
  refine xMeth FX5_tell (Nat.le_of_ble_eq_true rfl) ?_
  have hk9 : w = 0 ∨ w = 1 ∨ w = 2 ∨ w = 3 ∨ w = 4 ∨ w = 5 ∨ w = 6 ∨ w = 7 ∨ w = 8 := by omega
  refine x_iload_n 1 (xd DX5_tell rfl) rfl rfl ?_
  rcases hk9 with e | e | e | e | e | e | e | e | e <;> subst e
  · refine x_tableIn 48 (xd DX5_tell rfl) (by decide) (by decide) (by decide) rfl rfl ?_
    refine x_aload_n 49 (xd DX5_tell rfl) rfl rfl ?_
    refine x_gz 52 6 rfl LX5_33 (xd DX5_tell rfl) rfl ⟨Or.inr ⟨rfl, by decide⟩, by decide⟩ rfl ?_
    refine x_if_eq 55 60 (xd DX5_tell rfl) rfl (by have := hR.2.1; omega) rfl (fun c52 => ?_) (fun c52 => ?_)
    · refine x_aload_n 61 (xd DX5_tell rfl) rfl rfl ?_
      refine x_gi 64 9 rfl LX5_42 (xd DX5_tell rfl) rfl ⟨Or.inr ⟨rfl, by decide⟩, by decide⟩ rfl ?_
      refine x_ri (xd DX5_tell rfl) rfl ?_
      refine ⟨?_, rfl⟩
      unfold tellF
      first | rfl | (rw [if_pos rfl, if_pos c52]) | (rw [if_pos rfl, if_neg c52]) | (show _ = (if h 255 8 = 0 then 0 else 1); first | rw [if_pos c84] | rw [if_neg c84]) | (show _ = (if h 255 7 = 0 then 0 else 1); first | rw [if_pos c112] | rw [if_neg c112])
    · refine x_bipush 57 (xd DX5_tell rfl) rfl rfl ?_
      refine x_goto 64 (xd DX5_tell rfl) rfl ?_
      refine x_ri (xd DX5_tell rfl) rfl ?_
      refine ⟨?_, rfl⟩
      unfold tellF
      first | rfl | (rw [if_pos rfl, if_pos c52]) | (rw [if_pos rfl, if_neg c52]) | (show _ = (if h 255 8 = 0 then 0 else 1); first | rw [if_pos c84] | rw [if_neg c84]) | (show _ = (if h 255 7 = 0 then 0 else 1); first | rw [if_pos c112] | rw [if_neg c112])
  · refine x_tableIn 65 (xd DX5_tell rfl) (by decide) (by decide) (by decide) rfl rfl ?_
    refine x_aload_n 66 (xd DX5_tell rfl) rfl rfl ?_
    refine x_gi 69 10 rfl LX5_46 (xd DX5_tell rfl) rfl ⟨Or.inr ⟨rfl, by decide⟩, by decide⟩ rfl ?_
    refine x_ri (xd DX5_tell rfl) rfl ?_
    refine ⟨?_, rfl⟩
    unfold tellF
    first | rfl | (rw [if_pos rfl, if_pos c52]) | (rw [if_pos rfl, if_neg c52]) | (show _ = (if h 255 8 = 0 then 0 else 1); first | rw [if_pos c84] | rw [if_neg c84]) | (show _ = (if h 255 7 = 0 then 0 else 1); first | rw [if_pos c112] | rw [if_neg c112])
  · refine x_tableIn 70 (xd DX5_tell rfl) (by decide) (by decide) (by decide) rfl rfl ?_
    refine x_aload_n 71 (xd DX5_tell rfl) rfl rfl ?_
    refine x_gi 74 11 rfl LX5_49 (xd DX5_tell rfl) rfl ⟨Or.inr ⟨rfl, by decide⟩, by decide⟩ rfl ?_
    refine x_ri (xd DX5_tell rfl) rfl ?_
    refine ⟨?_, rfl⟩
    unfold tellF
    first | rfl | (rw [if_pos rfl, if_pos c52]) | (rw [if_pos rfl, if_neg c52]) | (show _ = (if h 255 8 = 0 then 0 else 1); first | rw [if_pos c84] | rw [if_neg c84]) | (show _ = (if h 255 7 = 0 then 0 else 1); first | rw [if_pos c112] | rw [if_neg c112])
  · refine x_tableIn 75 (xd DX5_tell rfl) (by decide) (by decide) (by decide) rfl rfl ?_
    refine x_aload_n 76 (xd DX5_tell rfl) rfl rfl ?_
    refine x_gi 79 12 rfl LX5_52 (xd DX5_tell rfl) rfl ⟨Or.inr ⟨rfl, by decide⟩, by decide⟩ rfl ?_
    refine x_ri (xd DX5_tell rfl) rfl ?_
    refine ⟨?_, rfl⟩
    unfold tellF
    first | rfl | (rw [if_pos rfl, if_pos c52]) | (rw [if_pos rfl, if_neg c52]) | (show _ = (if h 255 8 = 0 then 0 else 1); first | rw [if_pos c84] | rw [if_neg c84]) | (show _ = (if h 255 7 = 0 then 0 else 1); first | rw [if_pos c112] | rw [if_neg c112])
  · refine x_tableIn 80 (xd DX5_tell rfl) (by decide) (by decide) (by decide) rfl rfl ?_
    refine x_aload_n 81 (xd DX5_tell rfl) rfl rfl ?_
    refine x_gz 84 8 rfl LX5_39 (xd DX5_tell rfl) rfl ⟨Or.inr ⟨rfl, by decide⟩, by decide⟩ rfl ?_
    refine x_if_eq 87 91 (xd DX5_tell rfl) rfl (by have := hR.2.2.2.1; omega) rfl (fun c84 => ?_) (fun c84 => ?_)
    · refine x_iconst 92 (xd DX5_tell rfl) rfl ?_
      refine x_ri (xd DX5_tell rfl) rfl ?_
      refine ⟨?_, rfl⟩
      unfold tellF
      first | rfl | (rw [if_pos rfl, if_pos c52]) | (rw [if_pos rfl, if_neg c52]) | (show _ = (if h 255 8 = 0 then 0 else 1); first | rw [if_pos c84] | rw [if_neg c84]) | (show _ = (if h 255 7 = 0 then 0 else 1); first | rw [if_pos c112] | rw [if_neg c112])
    · refine x_iconst 88 (xd DX5_tell rfl) rfl ?_
      refine x_goto 92 (xd DX5_tell rfl) rfl ?_
      refine x_ri (xd DX5_tell rfl) rfl ?_
      refine ⟨?_, rfl⟩
      unfold tellF
      first | rfl | (rw [if_pos rfl, if_pos c52]) | (rw [if_pos rfl, if_neg c52]) | (show _ = (if h 255 8 = 0 then 0 else 1); first | rw [if_pos c84] | rw [if_neg c84]) | (show _ = (if h 255 7 = 0 then 0 else 1); first | rw [if_pos c112] | rw [if_neg c112])
  · refine x_tableIn 93 (xd DX5_tell rfl) (by decide) (by decide) (by decide) rfl rfl ?_
    refine x_aload_n 94 (xd DX5_tell rfl) rfl rfl ?_
    refine x_gi 97 15 rfl LX5_67 (xd DX5_tell rfl) rfl ⟨Or.inr ⟨rfl, by decide⟩, by decide⟩ rfl ?_
    refine x_ri (xd DX5_tell rfl) rfl ?_
    refine ⟨?_, rfl⟩
    unfold tellF
    first | rfl | (rw [if_pos rfl, if_pos c52]) | (rw [if_pos rfl, if_neg c52]) | (show _ = (if h 255 8 = 0 then 0 else 1); first | rw [if_pos c84] | rw [if_neg c84]) | (show _ = (if h 255 7 = 0 then 0 else 1); first | rw [if_pos c112] | rw [if_neg c112])
  · refine x_tableIn 98 (xd DX5_tell rfl) (by decide) (by decide) (by decide) rfl rfl ?_
    refine x_aload_n 99 (xd DX5_tell rfl) rfl rfl ?_
    refine x_gi 102 16 rfl LX5_70 (xd DX5_tell rfl) rfl ⟨Or.inr ⟨rfl, by decide⟩, by decide⟩ rfl ?_
    refine x_ri (xd DX5_tell rfl) rfl ?_
    refine ⟨?_, rfl⟩
    unfold tellF
    first | rfl | (rw [if_pos rfl, if_pos c52]) | (rw [if_pos rfl, if_neg c52]) | (show _ = (if h 255 8 = 0 then 0 else 1); first | rw [if_pos c84] | rw [if_neg c84]) | (show _ = (if h 255 7 = 0 then 0 else 1); first | rw [if_pos c112] | rw [if_neg c112])
  · refine x_tableIn 103 (xd DX5_tell rfl) (by decide) (by decide) (by decide) rfl rfl ?_
    refine x_aload_n 104 (xd DX5_tell rfl) rfl rfl ?_
    refine x_gi 107 14 rfl LX5_64 (xd DX5_tell rfl) rfl ⟨Or.inr ⟨rfl, by decide⟩, by decide⟩ rfl ?_
    refine x_ri (xd DX5_tell rfl) rfl ?_
    refine ⟨?_, rfl⟩
    unfold tellF
    first | rfl | (rw [if_pos rfl, if_pos c52]) | (rw [if_pos rfl, if_neg c52]) | (show _ = (if h 255 8 = 0 then 0 else 1); first | rw [if_pos c84] | rw [if_neg c84]) | (show _ = (if h 255 7 = 0 then 0 else 1); first | rw [if_pos c112] | rw [if_neg c112])
  · refine x_tableOut 108 (xd DX5_tell rfl) (by decide) (Or.inr (by decide)) rfl ?_
    refine x_aload_n 109 (xd DX5_tell rfl) rfl rfl ?_
    refine x_gz 112 7 rfl LX5_36 (xd DX5_tell rfl) rfl ⟨Or.inr ⟨rfl, by decide⟩, by decide⟩ rfl ?_
    refine x_if_eq 115 119 (xd DX5_tell rfl) rfl (by have := hR.2.2.1; omega) rfl (fun c112 => ?_) (fun c112 => ?_)
    · refine x_iconst 120 (xd DX5_tell rfl) rfl ?_
      refine x_ri (xd DX5_tell rfl) rfl ?_
      refine ⟨?_, rfl⟩
      unfold tellF
      first | rfl | (rw [if_pos rfl, if_pos c52]) | (rw [if_pos rfl, if_neg c52]) | (show _ = (if h 255 8 = 0 then 0 else 1); first | rw [if_pos c84] | rw [if_neg c84]) | (show _ = (if h 255 7 = 0 then 0 else 1); first | rw [if_pos c112] | rw [if_neg c112])
    · refine x_iconst 116 (xd DX5_tell rfl) rfl ?_
      refine x_goto 120 (xd DX5_tell rfl) rfl ?_
      refine x_ri (xd DX5_tell rfl) rfl ?_
      refine ⟨?_, rfl⟩
      unfold tellF
      first | rfl | (rw [if_pos rfl, if_pos c52]) | (rw [if_pos rfl, if_neg c52]) | (show _ = (if h 255 8 = 0 then 0 else 1); first | rw [if_pos c84] | rw [if_neg c84]) | (show _ = (if h 255 7 = 0 then 0 else 1); first | rw [if_pos c112] | rw [if_neg c112])
end
section
/-! SqueezedCode: what it comes to, and of a run, readers -/
/-- the class's picture -/
def CI (h : XH) : Prop := PW h ∧ SW h 8 ∧ HW h ∧ LY h ∧ (h 255 5 = 0 ∨ h 255 5 = 1) ∧ (h 255 5 = 1 → RW h) ∧ (0 ≤ h 1 2 ∧ h 1 2 ≤ 200) ∧ ∀ j, 0 ≤ j → j < h 1 2 → 32 ≤ h 2 j ∧ h 2 j ≤ 126
theorem CI.len {h : XH} (hC : CI h) : 0 ≤ h 192 13 ∧ h 192 13 ≤ 192 := by
  obtain ⟨hP, hS, -, hL, -⟩ := hC
  have hP1 := hP.1
  obtain ⟨K1, -⟩ := FB_PK hS.1 hL.2.2.2.2.1
  rw [hL.2.2.2.2.2.2.1]
  have := (csN_rg hP hS K1 (h 4 3).toNat (by omega)).2.2.2
  omega
theorem CI.rows {h : XH} (hC : CI h) {j : Int} (h0 : 0 ≤ j) (h1 : j < h 4 3) : (-4 ≤ h 249 j ∧ h 249 j < 8) ∧ (-4 ≤ h 250 j ∧ h 250 j ≤ 48) ∧ (-4 ≤ h 251 j ∧ h 251 j ≤ 192) ∧ (0 ≤ h 252 j ∧ h 252 j ≤ 192) := by
  obtain ⟨hP, hS, -, hL, -⟩ := hC
  have hP1 := hP.1
  have hS1 := hS.1
  obtain ⟨K1, -⟩ := FB_PK hS.1 hL.2.2.2.2.1
  obtain ⟨x, rfl⟩ := Int.eq_ofNat_of_zero_le h0
  obtain ⟨p1, p2, p3, p4⟩ := hL.2.2.2.2.2.2.2.1 x h1
  have r1 := csN_rg hP hS K1 x (by omega)
  have r2 := csN_rg hP hS K1 (x + 1) (by omega)
  rw [p1, p2, p3, p4]
  refine ⟨by omega, by split <;> omega, by split <;> omega, by omega⟩
theorem CI.lines {h : XH} (hC : CI h) : 1 ≤ h 192 14 ∧ h 192 14 ≤ 12 := by
  obtain ⟨hP, hS, -, hL, -⟩ := hC
  have hP1 := hP.1
  rw [hL.2.1]
  rcases hS.2.1 with e | e | e <;> rw [e] <;> omega
def nibC (h : XH) (i : Int) : Int := if i < 0 then -1 else if i < h 192 13 then h 253 i else -4
def adrC (h : XH) (i : Int) : Int := if 0 ≤ i ∧ i < h 4 3 then h 251 i else -1
def heldC (h : XH) (i : Int) : Int := if i < 0 then -1 else if h 255 5 = 0 then -2 else if i < h 255 14 then h 258 i else -4
def cellC (h : XH) (i : Int) : Int := if 0 ≤ i ∧ i < 10 then (if h 255 5 = 0 then -2 else h 256 i) else -1
def outC (h : XH) (i : Int) : Int := if i < 0 then -1 else if h 255 5 = 0 then -2 else if i < h 255 12 then h 257 i else -4
def nowC (h : XH) (w : Int) : Int := if 0 ≤ w ∧ w ≤ 8 then (if h 255 5 = 0 then -2 else tellF h w) else -1
set_option maxRecDepth 100000 in
set_option maxHeartbeats 4000000 in
theorem pX8_nibble {K : XK} {n : Nat} {h : XH} (i : Int) (hi : xrg i) (hC : CI h) : MI K mX8_nibble 0 n [vr 0, vi i] h (fun zr h' => zr = nibC h i ∧ h' = h) := by
  refine xMeth FX8_nibble (Nat.le_of_ble_eq_true rfl) ?_
  have hlen := hC.len
  have hP1 := hC.1.1
  have hS1 := hC.2.1.1
  have hx5 := hC.2.2.2.2.1
  refine x_iload_n 1 (xd DX8_nibble rfl) rfl rfl ?_
  refine x_if_ge 4 6 (xd DX8_nibble rfl) rfl (by omega) rfl (fun c1 => ?_) (fun c1 => ?_)
  · refine x_iload_n 7 (xd DX8_nibble rfl) rfl rfl ?_
    refine x_aload_n 8 (xd DX8_nibble rfl) rfl rfl ?_
    refine x_gr 11 _ LX8_42 (xd DX8_nibble rfl) rfl rfl ⟨by decide, by decide⟩ (by decide) rfl rfl ?_
    refine x_gi 14 13 rfl LX8_195 (xd DX8_nibble rfl) rfl ⟨Or.inr ⟨rfl, by decide⟩, by decide⟩ rfl ?_
    refine x_icmp_ge 17 29 (xd DX8_nibble rfl) rfl (by omega) (by omega) rfl (fun c14 => ?_) (fun c14 => ?_)
    · refine x_bipush 31 (xd DX8_nibble rfl) rfl rfl ?_
      refine x_ri (xd DX8_nibble rfl) rfl ?_
      refine ⟨?_, rfl⟩
      unfold nibC
      (repeat' split) <;> first | rfl | (exfalso; omega)
    · refine x_aload_n 18 (xd DX8_nibble rfl) rfl rfl ?_
      refine x_gr 21 _ LX8_42 (xd DX8_nibble rfl) rfl rfl ⟨by decide, by decide⟩ (by decide) rfl rfl ?_
      refine x_gr 24 _ LX8_209 (xd DX8_nibble rfl) rfl rfl ⟨by decide, by decide⟩ (by decide) rfl rfl ?_
      refine x_iload_n 25 (xd DX8_nibble rfl) rfl rfl ?_
      refine x_iaload 26 (xd DX8_nibble rfl) rfl ⟨Or.inr ⟨rfl, by decide⟩, by decide⟩ (by decide) (by omega) (by omega) rfl ?_
      refine x_goto 31 (xd DX8_nibble rfl) rfl ?_
      refine x_ri (xd DX8_nibble rfl) rfl ?_
      refine ⟨?_, rfl⟩
      unfold nibC
      (repeat' split) <;> first | rfl | (exfalso; omega)
  · refine x_iconst 5 (xd DX8_nibble rfl) rfl ?_
    refine x_ri (xd DX8_nibble rfl) rfl ?_
    refine ⟨?_, rfl⟩
    unfold nibC
    (repeat' split) <;> first | rfl | (exfalso; omega)

set_option maxRecDepth 100000 in
set_option maxHeartbeats 4000000 in
theorem pX8_address {K : XK} {n : Nat} {h : XH} (i : Int) (hi : xrg i) (hC : CI h) : MI K mX8_address 1 n [vr 0, vi i] h (fun zr h' => zr = adrC h i ∧ h' = h) := by
  refine xMeth FX8_address (Nat.le_of_ble_eq_true rfl) ?_
  have hlen := hC.len
  have hP1 := hC.1.1
  have hS1 := hC.2.1.1
  have hx5 := hC.2.2.2.2.1
  refine x_aload_n 1 (xd DX8_address rfl) rfl rfl ?_
  refine x_gr 4 _ LX8_19 (xd DX8_address rfl) rfl rfl ⟨by decide, by decide⟩ (by decide) rfl rfl ?_
  refine x_iload_n 5 (xd DX8_address rfl) rfl rfl ?_
  refine x_Vi 8 (pX4_has i hi (by omega)) FX4_has VX4_has CX8_108 (xd DX8_address rfl) rfl rfl rfl ⟨by decide, rfl⟩ ⟨by decide, by decide⟩ (by decide) (Nat.le_of_ble_eq_true rfl) (by decide) rfl ?_
  rintro z9 h9 ⟨q1, q2⟩
  rw [q1, q2]
  clear q1 q2 z9 h9
  refine x_ifp_eq 11 23 (xd DX8_address rfl) rfl rfl (fun c8 => ?_) (fun c8 => ?_)
  · refine x_iconst 24 (xd DX8_address rfl) rfl ?_
    refine x_ri (xd DX8_address rfl) rfl ?_
    refine ⟨?_, rfl⟩
    unfold adrC
    (repeat' split) <;> first | rfl | (exfalso; omega)
  · refine x_aload_n 12 (xd DX8_address rfl) rfl rfl ?_
    refine x_gr 15 _ LX8_42 (xd DX8_address rfl) rfl rfl ⟨by decide, by decide⟩ (by decide) rfl rfl ?_
    refine x_gr 18 _ LX8_212 (xd DX8_address rfl) rfl rfl ⟨by decide, by decide⟩ (by decide) rfl rfl ?_
    refine x_iload_n 19 (xd DX8_address rfl) rfl rfl ?_
    refine x_iaload 20 (xd DX8_address rfl) rfl ⟨Or.inr ⟨rfl, by decide⟩, by decide⟩ (by decide) (by omega) (by omega) rfl ?_
    refine x_goto 24 (xd DX8_address rfl) rfl ?_
    refine x_ri (xd DX8_address rfl) rfl ?_
    refine ⟨?_, rfl⟩
    unfold adrC
    (repeat' split) <;> first | rfl | (exfalso; omega)

set_option maxRecDepth 100000 in
set_option maxHeartbeats 4000000 in
theorem pX8_held {K : XK} {n : Nat} {h : XH} (i : Int) (hi : xrg i) (hC : CI h) : MI K mX8_held 0 n [vr 0, vi i] h (fun zr h' => zr = heldC h i ∧ h' = h) := by
  refine xMeth FX8_held (Nat.le_of_ble_eq_true rfl) ?_
  have hlen := hC.len
  have hP1 := hC.1.1
  have hS1 := hC.2.1.1
  have hx5 := hC.2.2.2.2.1
  refine x_iload_n 1 (xd DX8_held rfl) rfl rfl ?_
  refine x_if_ge 4 6 (xd DX8_held rfl) rfl (by omega) rfl (fun c1 => ?_) (fun c1 => ?_)
  · refine x_aload_n 7 (xd DX8_held rfl) rfl rfl ?_
    refine x_gr 10 _ LX8_60 (xd DX8_held rfl) rfl rfl ⟨by decide, by decide⟩ (by decide) rfl rfl ?_
    refine x_gz 13 5 rfl LX8_237 (xd DX8_held rfl) rfl ⟨Or.inr ⟨rfl, by decide⟩, by decide⟩ rfl ?_
    refine x_if_ne 16 19 (xd DX8_held rfl) rfl (by omega) rfl (fun c13 => ?_) (fun c13 => ?_)
    · refine x_iload_n 20 (xd DX8_held rfl) rfl rfl ?_
      refine x_aload_n 21 (xd DX8_held rfl) rfl rfl ?_
      refine x_gr 24 _ LX8_60 (xd DX8_held rfl) rfl rfl ⟨by decide, by decide⟩ (by decide) rfl rfl ?_
      refine x_gi 27 14 rfl LX8_250 (xd DX8_held rfl) rfl ⟨Or.inr ⟨rfl, by decide⟩, by decide⟩ rfl ?_
      refine x_icmp_ge 30 42 (xd DX8_held rfl) rfl (by have hR := hC.2.2.2.2.2.1 (by omega); have r12 := hR.2.2.2.2.2.2.1; have r13 := hR.2.2.2.2.2.2.2.1; have r14 := hR.2.2.2.2.2.2.2.2.1; omega) (by have hR := hC.2.2.2.2.2.1 (by omega); have r12 := hR.2.2.2.2.2.2.1; have r13 := hR.2.2.2.2.2.2.2.1; have r14 := hR.2.2.2.2.2.2.2.2.1; omega) rfl (fun c27 => ?_) (fun c27 => ?_)
      · refine x_bipush 44 (xd DX8_held rfl) rfl rfl ?_
        refine x_ri (xd DX8_held rfl) rfl ?_
        refine ⟨?_, rfl⟩
        unfold heldC
        (repeat' split) <;> first | rfl | (exfalso; omega)
      · refine x_aload_n 31 (xd DX8_held rfl) rfl rfl ?_
        refine x_gr 34 _ LX8_60 (xd DX8_held rfl) rfl rfl ⟨by decide, by decide⟩ (by decide) rfl rfl ?_
        refine x_gr 37 _ LX8_253 (xd DX8_held rfl) rfl rfl ⟨by decide, by decide⟩ (by decide) rfl rfl ?_
        refine x_iload_n 38 (xd DX8_held rfl) rfl rfl ?_
        refine x_iaload 39 (xd DX8_held rfl) rfl ⟨Or.inr ⟨rfl, by decide⟩, by decide⟩ (by decide) (by have hR := hC.2.2.2.2.2.1 (by omega); have r12 := hR.2.2.2.2.2.2.1; have r13 := hR.2.2.2.2.2.2.2.1; have r14 := hR.2.2.2.2.2.2.2.2.1; omega) (by have hR := hC.2.2.2.2.2.1 (by omega); have r12 := hR.2.2.2.2.2.2.1; have r13 := hR.2.2.2.2.2.2.2.1; have r14 := hR.2.2.2.2.2.2.2.2.1; omega) rfl ?_
        refine x_goto 44 (xd DX8_held rfl) rfl ?_
        refine x_ri (xd DX8_held rfl) rfl ?_
        refine ⟨?_, rfl⟩
        unfold heldC
        (repeat' split) <;> first | rfl | (exfalso; omega)
    · refine x_bipush 18 (xd DX8_held rfl) rfl rfl ?_
      refine x_ri (xd DX8_held rfl) rfl ?_
      refine ⟨?_, rfl⟩
      unfold heldC
      (repeat' split) <;> first | rfl | (exfalso; omega)
  · refine x_iconst 5 (xd DX8_held rfl) rfl ?_
    refine x_ri (xd DX8_held rfl) rfl ?_
    refine ⟨?_, rfl⟩
    unfold heldC
    (repeat' split) <;> first | rfl | (exfalso; omega)

set_option maxRecDepth 100000 in
set_option maxHeartbeats 4000000 in
theorem pX8_cell {K : XK} {n : Nat} {h : XH} (i : Int) (hi : xrg i) (hC : CI h) : MI K mX8_cell 0 n [vr 0, vi i] h (fun zr h' => zr = cellC h i ∧ h' = h) := by
  refine xMeth FX8_cell (Nat.le_of_ble_eq_true rfl) ?_
  have hlen := hC.len
  have hP1 := hC.1.1
  have hS1 := hC.2.1.1
  have hx5 := hC.2.2.2.2.1
  refine x_iload_n 1 (xd DX8_cell rfl) rfl rfl ?_
  refine x_if_lt 4 10 (xd DX8_cell rfl) rfl (by omega) rfl (fun c1 => ?_) (fun c1 => ?_)
  · refine x_iconst 11 (xd DX8_cell rfl) rfl ?_
    refine x_ri (xd DX8_cell rfl) rfl ?_
    refine ⟨?_, rfl⟩
    unfold cellC
    (repeat' split) <;> first | rfl | (exfalso; omega)
  · refine x_iload_n 5 (xd DX8_cell rfl) rfl rfl ?_
    refine x_bipush 7 (xd DX8_cell rfl) rfl rfl ?_
    refine x_icmp_lt 10 12 (xd DX8_cell rfl) rfl (by omega) (by omega) rfl (fun c7 => ?_) (fun c7 => ?_)
    · refine x_aload_n 13 (xd DX8_cell rfl) rfl rfl ?_
      refine x_gr 16 _ LX8_60 (xd DX8_cell rfl) rfl rfl ⟨by decide, by decide⟩ (by decide) rfl rfl ?_
      refine x_gz 19 5 rfl LX8_237 (xd DX8_cell rfl) rfl ⟨Or.inr ⟨rfl, by decide⟩, by decide⟩ rfl ?_
      refine x_if_eq 22 34 (xd DX8_cell rfl) rfl (by omega) rfl (fun c19 => ?_) (fun c19 => ?_)
      · refine x_bipush 36 (xd DX8_cell rfl) rfl rfl ?_
        refine x_ri (xd DX8_cell rfl) rfl ?_
        refine ⟨?_, rfl⟩
        unfold cellC
        (repeat' split) <;> first | rfl | (exfalso; omega)
      · refine x_aload_n 23 (xd DX8_cell rfl) rfl rfl ?_
        refine x_gr 26 _ LX8_60 (xd DX8_cell rfl) rfl rfl ⟨by decide, by decide⟩ (by decide) rfl rfl ?_
        refine x_gr 29 _ LX8_256 (xd DX8_cell rfl) rfl rfl ⟨by decide, by decide⟩ (by decide) rfl rfl ?_
        refine x_iload_n 30 (xd DX8_cell rfl) rfl rfl ?_
        refine x_iaload 31 (xd DX8_cell rfl) rfl ⟨Or.inr ⟨rfl, by decide⟩, by decide⟩ (by decide) (by omega) (by omega) rfl ?_
        refine x_goto 36 (xd DX8_cell rfl) rfl ?_
        refine x_ri (xd DX8_cell rfl) rfl ?_
        refine ⟨?_, rfl⟩
        unfold cellC
        (repeat' split) <;> first | rfl | (exfalso; omega)
    · refine x_iconst 11 (xd DX8_cell rfl) rfl ?_
      refine x_ri (xd DX8_cell rfl) rfl ?_
      refine ⟨?_, rfl⟩
      unfold cellC
      (repeat' split) <;> first | rfl | (exfalso; omega)

set_option maxRecDepth 100000 in
set_option maxHeartbeats 4000000 in
theorem pX8_out {K : XK} {n : Nat} {h : XH} (i : Int) (hi : xrg i) (hC : CI h) : MI K mX8_out 0 n [vr 0, vi i] h (fun zr h' => zr = outC h i ∧ h' = h) := by
  refine xMeth FX8_out (Nat.le_of_ble_eq_true rfl) ?_
  have hlen := hC.len
  have hP1 := hC.1.1
  have hS1 := hC.2.1.1
  have hx5 := hC.2.2.2.2.1
  refine x_iload_n 1 (xd DX8_out rfl) rfl rfl ?_
  refine x_if_ge 4 6 (xd DX8_out rfl) rfl (by omega) rfl (fun c1 => ?_) (fun c1 => ?_)
  · refine x_aload_n 7 (xd DX8_out rfl) rfl rfl ?_
    refine x_gr 10 _ LX8_60 (xd DX8_out rfl) rfl rfl ⟨by decide, by decide⟩ (by decide) rfl rfl ?_
    refine x_gz 13 5 rfl LX8_237 (xd DX8_out rfl) rfl ⟨Or.inr ⟨rfl, by decide⟩, by decide⟩ rfl ?_
    refine x_if_ne 16 19 (xd DX8_out rfl) rfl (by omega) rfl (fun c13 => ?_) (fun c13 => ?_)
    · refine x_iload_n 20 (xd DX8_out rfl) rfl rfl ?_
      refine x_aload_n 21 (xd DX8_out rfl) rfl rfl ?_
      refine x_gr 24 _ LX8_60 (xd DX8_out rfl) rfl rfl ⟨by decide, by decide⟩ (by decide) rfl rfl ?_
      refine x_gi 27 12 rfl LX8_259 (xd DX8_out rfl) rfl ⟨Or.inr ⟨rfl, by decide⟩, by decide⟩ rfl ?_
      refine x_icmp_ge 30 42 (xd DX8_out rfl) rfl (by have hR := hC.2.2.2.2.2.1 (by omega); have r12 := hR.2.2.2.2.2.2.1; have r13 := hR.2.2.2.2.2.2.2.1; have r14 := hR.2.2.2.2.2.2.2.2.1; omega) (by have hR := hC.2.2.2.2.2.1 (by omega); have r12 := hR.2.2.2.2.2.2.1; have r13 := hR.2.2.2.2.2.2.2.1; have r14 := hR.2.2.2.2.2.2.2.2.1; omega) rfl (fun c27 => ?_) (fun c27 => ?_)
      · refine x_bipush 44 (xd DX8_out rfl) rfl rfl ?_
        refine x_ri (xd DX8_out rfl) rfl ?_
        refine ⟨?_, rfl⟩
        unfold outC
        (repeat' split) <;> first | rfl | (exfalso; omega)
      · refine x_aload_n 31 (xd DX8_out rfl) rfl rfl ?_
        refine x_gr 34 _ LX8_60 (xd DX8_out rfl) rfl rfl ⟨by decide, by decide⟩ (by decide) rfl rfl ?_
        refine x_gr 37 _ LX8_262 (xd DX8_out rfl) rfl rfl ⟨by decide, by decide⟩ (by decide) rfl rfl ?_
        refine x_iload_n 38 (xd DX8_out rfl) rfl rfl ?_
        refine x_iaload 39 (xd DX8_out rfl) rfl ⟨Or.inr ⟨rfl, by decide⟩, by decide⟩ (by decide) (by have hR := hC.2.2.2.2.2.1 (by omega); have r12 := hR.2.2.2.2.2.2.1; have r13 := hR.2.2.2.2.2.2.2.1; have r14 := hR.2.2.2.2.2.2.2.2.1; omega) (by have hR := hC.2.2.2.2.2.1 (by omega); have r12 := hR.2.2.2.2.2.2.1; have r13 := hR.2.2.2.2.2.2.2.1; have r14 := hR.2.2.2.2.2.2.2.2.1; omega) rfl ?_
        refine x_goto 44 (xd DX8_out rfl) rfl ?_
        refine x_ri (xd DX8_out rfl) rfl ?_
        refine ⟨?_, rfl⟩
        unfold outC
        (repeat' split) <;> first | rfl | (exfalso; omega)
    · refine x_bipush 18 (xd DX8_out rfl) rfl rfl ?_
      refine x_ri (xd DX8_out rfl) rfl ?_
      refine ⟨?_, rfl⟩
      unfold outC
      (repeat' split) <;> first | rfl | (exfalso; omega)
  · refine x_iconst 5 (xd DX8_out rfl) rfl ?_
    refine x_ri (xd DX8_out rfl) rfl ?_
    refine ⟨?_, rfl⟩
    unfold outC
    (repeat' split) <;> first | rfl | (exfalso; omega)

set_option maxRecDepth 100000 in
set_option maxHeartbeats 4000000 in
theorem pX8_now {K : XK} {n : Nat} {h : XH} (w : Int) (hw : xrg w) (hC : CI h) : MI K mX8_now 1 n [vr 0, vi w] h (fun zr h' => zr = nowC h w ∧ h' = h) := by
  refine xMeth FX8_now (Nat.le_of_ble_eq_true rfl) ?_
  have hlen := hC.len
  have hP1 := hC.1.1
  have hS1 := hC.2.1.1
  have hx5 := hC.2.2.2.2.1
  refine x_iload_n 1 (xd DX8_now rfl) rfl rfl ?_
  refine x_if_lt 4 10 (xd DX8_now rfl) rfl (by omega) rfl (fun c1 => ?_) (fun c1 => ?_)
  · refine x_iconst 11 (xd DX8_now rfl) rfl ?_
    refine x_ri (xd DX8_now rfl) rfl ?_
    refine ⟨?_, rfl⟩
    unfold nowC
    (repeat' split) <;> first | rfl | (exfalso; omega)
  · refine x_iload_n 5 (xd DX8_now rfl) rfl rfl ?_
    refine x_bipush 7 (xd DX8_now rfl) rfl rfl ?_
    refine x_icmp_le 10 12 (xd DX8_now rfl) rfl (by omega) (by omega) rfl (fun c7 => ?_) (fun c7 => ?_)
    · refine x_aload_n 13 (xd DX8_now rfl) rfl rfl ?_
      refine x_gr 16 _ LX8_60 (xd DX8_now rfl) rfl rfl ⟨by decide, by decide⟩ (by decide) rfl rfl ?_
      refine x_gz 19 5 rfl LX8_237 (xd DX8_now rfl) rfl ⟨Or.inr ⟨rfl, by decide⟩, by decide⟩ rfl ?_
      refine x_if_eq 22 33 (xd DX8_now rfl) rfl (by omega) rfl (fun c19 => ?_) (fun c19 => ?_)
      · refine x_bipush 35 (xd DX8_now rfl) rfl rfl ?_
        refine x_ri (xd DX8_now rfl) rfl ?_
        refine ⟨?_, rfl⟩
        unfold nowC
        (repeat' split) <;> first | rfl | (exfalso; omega)
      · refine x_aload_n 23 (xd DX8_now rfl) rfl rfl ?_
        refine x_gr 26 _ LX8_60 (xd DX8_now rfl) rfl rfl ⟨by decide, by decide⟩ (by decide) rfl rfl ?_
        refine x_iload_n 27 (xd DX8_now rfl) rfl rfl ?_
        refine x_Vi 30 (pX5_tell w (by omega) (hC.2.2.2.2.2.1 (by omega))) FX5_tell VX5_tell CX8_247 (xd DX8_now rfl) rfl rfl rfl ⟨by decide, rfl⟩ ⟨by decide, by decide⟩ (by decide) (Nat.le_of_ble_eq_true rfl) (by decide) rfl ?_
        rintro z9 h9 ⟨q1, q2⟩
        rw [q1, q2]
        clear q1 q2 z9 h9
        refine x_goto 35 (xd DX8_now rfl) rfl ?_
        refine x_ri (xd DX8_now rfl) rfl ?_
        refine ⟨?_, rfl⟩
        unfold nowC
        (repeat' split) <;> first | rfl | (exfalso; omega)
    · refine x_iconst 11 (xd DX8_now rfl) rfl ?_
      refine x_ri (xd DX8_now rfl) rfl ?_
      refine ⟨?_, rfl⟩
      unfold nowC
      (repeat' split) <;> first | rfl | (exfalso; omega)

set_option maxRecDepth 100000 in
set_option maxHeartbeats 4000000 in
theorem pX8_at {K : XK} {n : Nat} {h : XH} (v : Int) (hv : xrg v) (hC : CI h) : MI K mX8_at 1 n [vr 0, vi v] h (fun zr h' => ((v < 0 ∧ zr = -1) ∨ (0 ≤ v ∧ FirstAt (h 251) (h 4 3) v zr)) ∧ h' = h) := by
  refine xMeth FX8_at (Nat.le_of_ble_eq_true rfl) ?_
  have hlen := hC.len
  have hP1 := hC.1.1
  have hS1 := hC.2.1.1
  have hx5 := hC.2.2.2.2.1
  refine x_iload_n 1 (xd DX8_at rfl) rfl rfl ?_
  refine x_if_ge 4 6 (xd DX8_at rfl) rfl (by omega) rfl (fun c1 => ?_) (fun c1 => ?_)
  · refine x_aload_n 7 (xd DX8_at rfl) rfl rfl ?_
    refine x_gr 10 _ LX8_42 (xd DX8_at rfl) rfl rfl ⟨by decide, by decide⟩ (by decide) rfl rfl ?_
    refine x_iload_n 11 (xd DX8_at rfl) rfl rfl ?_
    refine x_Vi 14 (pX3_instructionOf v hC.1 hv (fun j a b => by have := (hC.rows a b).2.2.1; omega)) FX3_instructionOf VX3_instructionOf CX8_215 (xd DX8_at rfl) rfl rfl rfl ⟨by decide, rfl⟩ ⟨by decide, by decide⟩ (by decide) (Nat.le_of_ble_eq_true rfl) (by decide) rfl ?_
    rintro z9 h9 ⟨q1, q2⟩
    rw [q2]
    clear q2 h9
    refine x_ri (xd DX8_at rfl) rfl ?_
    first | exact ⟨Or.inl ⟨by omega, rfl⟩, rfl⟩ | exact ⟨Or.inr ⟨by omega, q1⟩, rfl⟩
  · refine x_iconst 5 (xd DX8_at rfl) rfl ?_
    refine x_ri (xd DX8_at rfl) rfl ?_
    first | exact ⟨Or.inl ⟨by omega, rfl⟩, rfl⟩ | exact ⟨Or.inr ⟨by omega, q1⟩, rfl⟩

noncomputable def seekC (h : XH) (k : Nat) (i : Int) : Int := if 0 ≤ i ∧ i < h 4 3 then h 252 i - lAd h k (i / (2 ^ k : Nat)) else -1
noncomputable def lineC (h : XH) (k : Nat) (l w : Int) : Int := if 0 ≤ l ∧ l < h 192 14 then (if w = 0 then lAd h k l else if w = 1 then lAd h k (l + 1) - lAd h k l else if w = 2 then cntR (fun j => h 250 j = 0) (l * (2 ^ k : Nat)).toNat (min ((l + 1) * (2 ^ k : Nat)).toNat (h 4 3).toNat - (l * (2 ^ k : Nat)).toNat) else -1) else -1
noncomputable def sizeC (h : XH) (w : Int) : Int := if w = 0 then h 192 13 else if w = 1 then tbN h (h 8 1).toNat else if w = 2 then 3 * h 192 14 else if w = 3 then h 192 13 + tbN h (h 8 1).toNat + 3 * h 192 14 else if w = 4 then plN h (h 4 3).toNat else if w = 5 then cntR (fun j => h 250 j = 0) 0 (h 4 3).toNat else -1
noncomputable def countC (h : XH) (w : Int) : Int := if w = 0 then h 4 3 else if w = 1 then h 8 1 else if w = 2 then h 8 2 else if w = 3 then h 8 3 else if w = 4 then h 192 14 else if w = 5 then cntR (fun j => h 7 j = 1) 0 (h 4 3).toNat else if w = 6 then h 34 1 else if w = 7 then h 1 2 else if w = 8 then h 255 5 else -1
set_option maxRecDepth 100000 in
set_option maxHeartbeats 4000000 in
theorem pX8_seek {K : XK} {n : Nat} {h : XH} (i : Int) (hi : xrg i) (hC : CI h) : MI K mX8_seek 3 n [vr 0, vi i] h (fun zr h' => (∃ k : Nat, h 8 2 = (2 ^ k : Nat) ∧ zr = seekC h k i) ∧ h' = h) := by
  refine xMeth FX8_seek (Nat.le_of_ble_eq_true rfl) ?_
  have hlen := hC.len
  have hP1 := hC.1.1
  have hS1 := hC.2.1.1
  have hx5 := hC.2.2.2.2.1
  obtain ⟨k, hk1, hk2, hk3, -⟩ := hC.2.2.2.1.1
  have hp : (0 : Int) < ((2 ^ k : Nat) : Int) := Int.natCast_pos.mpr (Nat.two_pow_pos k)
  refine x_aload_n 1 (xd DX8_seek rfl) rfl rfl ?_
  refine x_gr 4 _ LX8_19 (xd DX8_seek rfl) rfl rfl ⟨by decide, by decide⟩ (by decide) rfl rfl ?_
  refine x_iload_n 5 (xd DX8_seek rfl) rfl rfl ?_
  refine x_Vi 8 (pX4_has i hi (by omega)) FX4_has VX4_has CX8_108 (xd DX8_seek rfl) rfl rfl rfl ⟨by decide, rfl⟩ ⟨by decide, by decide⟩ (by decide) (Nat.le_of_ble_eq_true rfl) (by decide) rfl ?_
  rintro z9 h9 ⟨q1, q2⟩
  rw [q1, q2]
  clear q1 q2 z9 h9
  refine x_ifp_ne 11 13 (xd DX8_seek rfl) rfl rfl (fun c8 => ?_) (fun c8 => ?_)
  · refine x_aload_n 14 (xd DX8_seek rfl) rfl rfl ?_
    refine x_gr 17 _ LX8_42 (xd DX8_seek rfl) rfl rfl ⟨by decide, by decide⟩ (by decide) rfl rfl ?_
    refine x_gr 20 _ LX8_227 (xd DX8_seek rfl) rfl rfl ⟨by decide, by decide⟩ (by decide) rfl rfl ?_
    refine x_iload_n 21 (xd DX8_seek rfl) rfl rfl ?_
    refine x_iaload 22 (xd DX8_seek rfl) rfl ⟨Or.inr ⟨rfl, by decide⟩, by decide⟩ (by decide) (by omega) (by omega) rfl ?_
    refine x_aload_n 23 (xd DX8_seek rfl) rfl rfl ?_
    refine x_gr 26 _ LX8_42 (xd DX8_seek rfl) rfl rfl ⟨by decide, by decide⟩ (by decide) rfl rfl ?_
    refine x_aload_n 27 (xd DX8_seek rfl) rfl rfl ?_
    refine x_gr 30 _ LX8_42 (xd DX8_seek rfl) rfl rfl ⟨by decide, by decide⟩ (by decide) rfl rfl ?_
    refine x_iload_n 31 (xd DX8_seek rfl) rfl rfl ?_
    refine x_Vi 34 (pX3_lineOf i k hi hk2 (by omega)) FX3_lineOf VX3_lineOf CX8_230 (xd DX8_seek rfl) rfl rfl rfl ⟨by decide, rfl⟩ ⟨by decide, by decide⟩ (by decide) (Nat.le_of_ble_eq_true rfl) (by decide) rfl ?_
    rintro z9 h9 ⟨q1, q2⟩
    rw [q1, q2]
    clear q1 q2 z9 h9
    refine x_Vi 37 (pX3_lineAddress _ k hC.1 hk2 (by omega) ⟨Int.ediv_nonneg c8.1 (Int.le_of_lt hp), by have := Int.ediv_le_self (a := i) ((2 ^ k : Nat) : Int) c8.1; omega⟩) FX3_lineAddress VX3_lineAddress CX8_218 (xd DX8_seek rfl) rfl rfl rfl ⟨by decide, rfl⟩ ⟨by decide, by decide⟩ (by decide) (Nat.le_of_ble_eq_true rfl) (by decide) rfl ?_
    rintro z9 h9 ⟨q1, q2⟩
    rw [q1, q2]
    clear q1 q2 z9 h9
    refine x_isub 38 (xd DX8_seek rfl) rfl ?_
    refine x_ri (xd DX8_seek rfl) rfl ?_
    refine ⟨⟨k, hk3, ?_⟩, rfl⟩
    unfold seekC
    (repeat' split) <;> first | rfl | (exfalso; omega)
  · refine x_iconst 12 (xd DX8_seek rfl) rfl ?_
    refine x_ri (xd DX8_seek rfl) rfl ?_
    refine ⟨⟨k, hk3, ?_⟩, rfl⟩
    unfold seekC
    (repeat' split) <;> first | rfl | (exfalso; omega)

set_option maxRecDepth 100000 in
set_option maxHeartbeats 4000000 in
theorem pX8_size {K : XK} {n : Nat} {h : XH} (w : Int) (hw : xrg w) (hC : CI h) : MI K mX8_size 3 n [vr 0, vi w] h (fun zr h' => zr = sizeC h w ∧ h' = h) := by
  refine xMeth FX8_size (Nat.le_of_ble_eq_true rfl) ?_
  have hlen := hC.len
  have hP1 := hC.1.1
  have hS1 := hC.2.1.1
  have hx5 := hC.2.2.2.2.1
  have hN9 : h 4 3 = ((h 4 3).toNat : Int) := by omega
  refine x_iload_n 1 (xd DX8_size rfl) rfl rfl ?_
  have hsw : w = 0 ∨ w = 1 ∨ w = 2 ∨ w = 3 ∨ w = 4 ∨ w = 5 ∨ (w < 0 ∨ 5 < w) := by omega
  rcases hsw with e | e | e | e | e | e | e
  · subst e
    refine x_tableIn 40 (xd DX8_size rfl) (by decide) (by decide) (by decide) rfl rfl ?_
    refine x_aload_n 41 (xd DX8_size rfl) rfl rfl ?_
    refine x_gr 44 _ LX8_42 (xd DX8_size rfl) rfl rfl ⟨by decide, by decide⟩ (by decide) rfl rfl ?_
    refine x_gi 47 13 rfl LX8_195 (xd DX8_size rfl) rfl ⟨Or.inr ⟨rfl, by decide⟩, by decide⟩ rfl ?_
    refine x_ri (xd DX8_size rfl) rfl ?_
    refine ⟨?_, rfl⟩
    unfold sizeC
    first | rfl | (rw [if_neg (by omega), if_neg (by omega), if_neg (by omega), if_neg (by omega), if_neg (by omega), if_neg (by omega)]) | (show cntR (fun j => h 250 j = 0) 0 (min (h 4 3).toNat (h 4 3).toNat - 0) = cntR (fun j => h 250 j = 0) 0 (h 4 3).toNat; rw [Nat.min_self, Nat.sub_zero])
  · subst e
    refine x_tableIn 48 (xd DX8_size rfl) (by decide) (by decide) (by decide) rfl rfl ?_
    refine x_aload_n 49 (xd DX8_size rfl) rfl rfl ?_
    refine x_gr 52 _ LX8_26 (xd DX8_size rfl) rfl rfl ⟨by decide, by decide⟩ (by decide) rfl rfl ?_
    refine x_Vi 55 (pX6_tableNibbles hS1) FX6_tableNibbles VX6_tableNibbles CX8_196 (xd DX8_size rfl) rfl rfl rfl ⟨by decide, rfl⟩ ⟨by decide, by decide⟩ (by decide) (Nat.le_of_ble_eq_true rfl) (by decide) rfl ?_
    rintro z9 h9 ⟨q1, q2⟩
    rw [q1, q2]
    clear q1 q2 z9 h9
    refine x_ri (xd DX8_size rfl) rfl ?_
    refine ⟨?_, rfl⟩
    unfold sizeC
    first | rfl | (rw [if_neg (by omega), if_neg (by omega), if_neg (by omega), if_neg (by omega), if_neg (by omega), if_neg (by omega)]) | (show cntR (fun j => h 250 j = 0) 0 (min (h 4 3).toNat (h 4 3).toNat - 0) = cntR (fun j => h 250 j = 0) 0 (h 4 3).toNat; rw [Nat.min_self, Nat.sub_zero])
  · subst e
    refine x_tableIn 56 (xd DX8_size rfl) (by decide) (by decide) (by decide) rfl rfl ?_
    refine x_iconst 57 (xd DX8_size rfl) rfl ?_
    refine x_aload_n 58 (xd DX8_size rfl) rfl rfl ?_
    refine x_gr 61 _ LX8_42 (xd DX8_size rfl) rfl rfl ⟨by decide, by decide⟩ (by decide) rfl rfl ?_
    refine x_gi 64 14 rfl LX8_199 (xd DX8_size rfl) rfl ⟨Or.inr ⟨rfl, by decide⟩, by decide⟩ rfl ?_
    refine x_imul 65 (xd DX8_size rfl) rfl ?_
    refine x_ri (xd DX8_size rfl) rfl ?_
    refine ⟨?_, rfl⟩
    unfold sizeC
    first | rfl | (rw [if_neg (by omega), if_neg (by omega), if_neg (by omega), if_neg (by omega), if_neg (by omega), if_neg (by omega)]) | (show cntR (fun j => h 250 j = 0) 0 (min (h 4 3).toNat (h 4 3).toNat - 0) = cntR (fun j => h 250 j = 0) 0 (h 4 3).toNat; rw [Nat.min_self, Nat.sub_zero])
  · subst e
    refine x_tableIn 66 (xd DX8_size rfl) (by decide) (by decide) (by decide) rfl rfl ?_
    refine x_aload_n 67 (xd DX8_size rfl) rfl rfl ?_
    refine x_gr 70 _ LX8_42 (xd DX8_size rfl) rfl rfl ⟨by decide, by decide⟩ (by decide) rfl rfl ?_
    refine x_gi 73 13 rfl LX8_195 (xd DX8_size rfl) rfl ⟨Or.inr ⟨rfl, by decide⟩, by decide⟩ rfl ?_
    refine x_aload_n 74 (xd DX8_size rfl) rfl rfl ?_
    refine x_gr 77 _ LX8_26 (xd DX8_size rfl) rfl rfl ⟨by decide, by decide⟩ (by decide) rfl rfl ?_
    refine x_Vi 80 (pX6_tableNibbles hS1) FX6_tableNibbles VX6_tableNibbles CX8_196 (xd DX8_size rfl) rfl rfl rfl ⟨by decide, rfl⟩ ⟨by decide, by decide⟩ (by decide) (Nat.le_of_ble_eq_true rfl) (by decide) rfl ?_
    rintro z9 h9 ⟨q1, q2⟩
    rw [q1, q2]
    clear q1 q2 z9 h9
    refine x_iadd 81 (xd DX8_size rfl) rfl ?_
    refine x_iconst 82 (xd DX8_size rfl) rfl ?_
    refine x_aload_n 83 (xd DX8_size rfl) rfl rfl ?_
    refine x_gr 86 _ LX8_42 (xd DX8_size rfl) rfl rfl ⟨by decide, by decide⟩ (by decide) rfl rfl ?_
    refine x_gi 89 14 rfl LX8_199 (xd DX8_size rfl) rfl ⟨Or.inr ⟨rfl, by decide⟩, by decide⟩ rfl ?_
    refine x_imul 90 (xd DX8_size rfl) rfl ?_
    refine x_iadd 91 (xd DX8_size rfl) rfl ?_
    refine x_ri (xd DX8_size rfl) rfl ?_
    refine ⟨?_, rfl⟩
    unfold sizeC
    first | rfl | (rw [if_neg (by omega), if_neg (by omega), if_neg (by omega), if_neg (by omega), if_neg (by omega), if_neg (by omega)]) | (show cntR (fun j => h 250 j = 0) 0 (min (h 4 3).toNat (h 4 3).toNat - 0) = cntR (fun j => h 250 j = 0) 0 (h 4 3).toNat; rw [Nat.min_self, Nat.sub_zero])
  · subst e
    refine x_tableIn 92 (xd DX8_size rfl) (by decide) (by decide) (by decide) rfl rfl ?_
    refine x_aload_n 93 (xd DX8_size rfl) rfl rfl ?_
    refine x_gr 96 _ LX8_19 (xd DX8_size rfl) rfl rfl ⟨by decide, by decide⟩ (by decide) rfl rfl ?_
    refine x_Vi 99 (pX4_plainNibbles hC.1) FX4_plainNibbles VX4_plainNibbles CX8_202 (xd DX8_size rfl) rfl rfl rfl ⟨by decide, rfl⟩ ⟨by decide, by decide⟩ (by decide) (Nat.le_of_ble_eq_true rfl) (by decide) rfl ?_
    rintro z9 h9 ⟨q1, q2⟩
    rw [q1, q2]
    clear q1 q2 z9 h9
    refine x_ri (xd DX8_size rfl) rfl ?_
    refine ⟨?_, rfl⟩
    unfold sizeC
    first | rfl | (rw [if_neg (by omega), if_neg (by omega), if_neg (by omega), if_neg (by omega), if_neg (by omega), if_neg (by omega)]) | (show cntR (fun j => h 250 j = 0) 0 (min (h 4 3).toNat (h 4 3).toNat - 0) = cntR (fun j => h 250 j = 0) 0 (h 4 3).toNat; rw [Nat.min_self, Nat.sub_zero])
  · subst e
    refine x_tableIn 100 (xd DX8_size rfl) (by decide) (by decide) (by decide) rfl rfl ?_
    refine x_aload_n 101 (xd DX8_size rfl) rfl rfl ?_
    refine x_gr 104 _ LX8_42 (xd DX8_size rfl) rfl rfl ⟨by decide, by decide⟩ (by decide) rfl rfl ?_
    refine x_iconst 105 (xd DX8_size rfl) rfl ?_
    refine x_aload_n 106 (xd DX8_size rfl) rfl rfl ?_
    refine x_gr 109 _ LX8_19 (xd DX8_size rfl) rfl rfl ⟨by decide, by decide⟩ (by decide) rfl rfl ?_
    refine x_gi 112 3 rfl LX8_106 (xd DX8_size rfl) rfl ⟨Or.inr ⟨rfl, by decide⟩, by decide⟩ rfl ?_
    rw [hN9, show (0 : Int) = ((0 : Nat) : Int) from rfl]
    refine x_Vi 115 (pX3_references 0 (h 4 3).toNat hC.1 (Or.inl (by omega)) (by omega) (fun j a b => by have := (hC.rows a b).2.1; omega)) FX3_references VX3_references CX8_205 (xd DX8_size rfl) rfl rfl rfl ⟨by decide, rfl⟩ ⟨by decide, by decide⟩ (by decide) (Nat.le_of_ble_eq_true rfl) (by decide) rfl ?_
    rintro z9 h9 ⟨q1, q2⟩
    rw [q2, q1]
    clear q2 h9
    refine x_ri (xd DX8_size rfl) rfl ?_
    refine ⟨?_, rfl⟩
    unfold sizeC
    first | rfl | (rw [if_neg (by omega), if_neg (by omega), if_neg (by omega), if_neg (by omega), if_neg (by omega), if_neg (by omega)]) | (show cntR (fun j => h 250 j = 0) 0 (min (h 4 3).toNat (h 4 3).toNat - 0) = cntR (fun j => h 250 j = 0) 0 (h 4 3).toNat; rw [Nat.min_self, Nat.sub_zero])
  · refine x_tableOut 116 (xd DX8_size rfl) (hw) e rfl ?_
    refine x_iconst 117 (xd DX8_size rfl) rfl ?_
    refine x_ri (xd DX8_size rfl) rfl ?_
    refine ⟨?_, rfl⟩
    unfold sizeC
    first | rfl | (rw [if_neg (by omega), if_neg (by omega), if_neg (by omega), if_neg (by omega), if_neg (by omega), if_neg (by omega)]) | (show cntR (fun j => h 250 j = 0) 0 (min (h 4 3).toNat (h 4 3).toNat - 0) = cntR (fun j => h 250 j = 0) 0 (h 4 3).toNat; rw [Nat.min_self, Nat.sub_zero])


set_option maxRecDepth 100000 in
set_option maxHeartbeats 4000000 in
theorem pX8_count {K : XK} {n : Nat} {h : XH} (w : Int) (hw : xrg w) (hC : CI h) : MI K mX8_count 1 n [vr 0, vi w] h (fun zr h' => zr = countC h w ∧ h' = h) := by
  refine xMeth FX8_count (Nat.le_of_ble_eq_true rfl) ?_
  have hlen := hC.len
  have hP1 := hC.1.1
  have hS1 := hC.2.1.1
  have hx5 := hC.2.2.2.2.1
  refine x_iload_n 1 (xd DX8_count rfl) rfl rfl ?_
  have hsw : w = 0 ∨ w = 1 ∨ w = 2 ∨ w = 3 ∨ w = 4 ∨ w = 5 ∨ w = 6 ∨ w = 7 ∨ w = 8 ∨ (w < 0 ∨ 8 < w) := by omega
  rcases hsw with e | e | e | e | e | e | e | e | e | e
  · subst e
    refine x_tableIn 52 (xd DX8_count rfl) (by decide) (by decide) (by decide) rfl rfl ?_
    refine x_aload_n 53 (xd DX8_count rfl) rfl rfl ?_
    refine x_gr 56 _ LX8_19 (xd DX8_count rfl) rfl rfl ⟨by decide, by decide⟩ (by decide) rfl rfl ?_
    refine x_gi 59 3 rfl LX8_106 (xd DX8_count rfl) rfl ⟨Or.inr ⟨rfl, by decide⟩, by decide⟩ rfl ?_
    refine x_ri (xd DX8_count rfl) rfl ?_
    refine ⟨?_, rfl⟩
    unfold countC
    first | rfl | (show _ = h 255 5; omega) | (rw [if_neg (by omega), if_neg (by omega), if_neg (by omega), if_neg (by omega), if_neg (by omega), if_neg (by omega), if_neg (by omega), if_neg (by omega), if_neg (by omega)])
  · subst e
    refine x_tableIn 60 (xd DX8_count rfl) (by decide) (by decide) (by decide) rfl rfl ?_
    refine x_aload_n 61 (xd DX8_count rfl) rfl rfl ?_
    refine x_gr 64 _ LX8_26 (xd DX8_count rfl) rfl rfl ⟨by decide, by decide⟩ (by decide) rfl rfl ?_
    refine x_gi 67 1 rfl LX8_97 (xd DX8_count rfl) rfl ⟨Or.inr ⟨rfl, by decide⟩, by decide⟩ rfl ?_
    refine x_ri (xd DX8_count rfl) rfl ?_
    refine ⟨?_, rfl⟩
    unfold countC
    first | rfl | (show _ = h 255 5; omega) | (rw [if_neg (by omega), if_neg (by omega), if_neg (by omega), if_neg (by omega), if_neg (by omega), if_neg (by omega), if_neg (by omega), if_neg (by omega), if_neg (by omega)])
  · subst e
    refine x_tableIn 68 (xd DX8_count rfl) (by decide) (by decide) (by decide) rfl rfl ?_
    refine x_aload_n 69 (xd DX8_count rfl) rfl rfl ?_
    refine x_gr 72 _ LX8_26 (xd DX8_count rfl) rfl rfl ⟨by decide, by decide⟩ (by decide) rfl rfl ?_
    refine x_gi 75 2 rfl LX8_186 (xd DX8_count rfl) rfl ⟨Or.inr ⟨rfl, by decide⟩, by decide⟩ rfl ?_
    refine x_ri (xd DX8_count rfl) rfl ?_
    refine ⟨?_, rfl⟩
    unfold countC
    first | rfl | (show _ = h 255 5; omega) | (rw [if_neg (by omega), if_neg (by omega), if_neg (by omega), if_neg (by omega), if_neg (by omega), if_neg (by omega), if_neg (by omega), if_neg (by omega), if_neg (by omega)])
  · subst e
    refine x_tableIn 76 (xd DX8_count rfl) (by decide) (by decide) (by decide) rfl rfl ?_
    refine x_aload_n 77 (xd DX8_count rfl) rfl rfl ?_
    refine x_gr 80 _ LX8_26 (xd DX8_count rfl) rfl rfl ⟨by decide, by decide⟩ (by decide) rfl rfl ?_
    refine x_gi 83 3 rfl LX8_189 (xd DX8_count rfl) rfl ⟨Or.inr ⟨rfl, by decide⟩, by decide⟩ rfl ?_
    refine x_ri (xd DX8_count rfl) rfl ?_
    refine ⟨?_, rfl⟩
    unfold countC
    first | rfl | (show _ = h 255 5; omega) | (rw [if_neg (by omega), if_neg (by omega), if_neg (by omega), if_neg (by omega), if_neg (by omega), if_neg (by omega), if_neg (by omega), if_neg (by omega), if_neg (by omega)])
  · subst e
    refine x_tableIn 84 (xd DX8_count rfl) (by decide) (by decide) (by decide) rfl rfl ?_
    refine x_aload_n 85 (xd DX8_count rfl) rfl rfl ?_
    refine x_gr 88 _ LX8_42 (xd DX8_count rfl) rfl rfl ⟨by decide, by decide⟩ (by decide) rfl rfl ?_
    refine x_gi 91 14 rfl LX8_199 (xd DX8_count rfl) rfl ⟨Or.inr ⟨rfl, by decide⟩, by decide⟩ rfl ?_
    refine x_ri (xd DX8_count rfl) rfl ?_
    refine ⟨?_, rfl⟩
    unfold countC
    first | rfl | (show _ = h 255 5; omega) | (rw [if_neg (by omega), if_neg (by omega), if_neg (by omega), if_neg (by omega), if_neg (by omega), if_neg (by omega), if_neg (by omega), if_neg (by omega), if_neg (by omega)])
  · subst e
    refine x_tableIn 92 (xd DX8_count rfl) (by decide) (by decide) (by decide) rfl rfl ?_
    refine x_aload_n 93 (xd DX8_count rfl) rfl rfl ?_
    refine x_gr 96 _ LX8_19 (xd DX8_count rfl) rfl rfl ⟨by decide, by decide⟩ (by decide) rfl rfl ?_
    refine x_Vi 99 (pX4_targetCount hC.1) FX4_targetCount VX4_targetCount CX8_265 (xd DX8_count rfl) rfl rfl rfl ⟨by decide, rfl⟩ ⟨by decide, by decide⟩ (by decide) (Nat.le_of_ble_eq_true rfl) (by decide) rfl ?_
    rintro z9 h9 ⟨q1, q2⟩
    rw [q1, q2]
    clear q1 q2 z9 h9
    refine x_ri (xd DX8_count rfl) rfl ?_
    refine ⟨?_, rfl⟩
    unfold countC
    first | rfl | (show _ = h 255 5; omega) | (rw [if_neg (by omega), if_neg (by omega), if_neg (by omega), if_neg (by omega), if_neg (by omega), if_neg (by omega), if_neg (by omega), if_neg (by omega), if_neg (by omega)])
  · subst e
    refine x_tableIn 100 (xd DX8_count rfl) (by decide) (by decide) (by decide) rfl rfl ?_
    refine x_aload_n 101 (xd DX8_count rfl) rfl rfl ?_
    refine x_gr 104 _ LX8_33 (xd DX8_count rfl) rfl rfl ⟨by decide, by decide⟩ (by decide) rfl rfl ?_
    refine x_gi 107 1 rfl LX8_100 (xd DX8_count rfl) rfl ⟨Or.inr ⟨rfl, by decide⟩, by decide⟩ rfl ?_
    refine x_ri (xd DX8_count rfl) rfl ?_
    refine ⟨?_, rfl⟩
    unfold countC
    first | rfl | (show _ = h 255 5; omega) | (rw [if_neg (by omega), if_neg (by omega), if_neg (by omega), if_neg (by omega), if_neg (by omega), if_neg (by omega), if_neg (by omega), if_neg (by omega), if_neg (by omega)])
  · subst e
    refine x_tableIn 108 (xd DX8_count rfl) (by decide) (by decide) (by decide) rfl rfl ?_
    refine x_aload_n 109 (xd DX8_count rfl) rfl rfl ?_
    refine x_gr 112 _ LX8_12 (xd DX8_count rfl) rfl rfl ⟨by decide, by decide⟩ (by decide) rfl rfl ?_
    refine x_gi 115 2 rfl LX8_268 (xd DX8_count rfl) rfl ⟨Or.inr ⟨rfl, by decide⟩, by decide⟩ rfl ?_
    refine x_ri (xd DX8_count rfl) rfl ?_
    refine ⟨?_, rfl⟩
    unfold countC
    first | rfl | (show _ = h 255 5; omega) | (rw [if_neg (by omega), if_neg (by omega), if_neg (by omega), if_neg (by omega), if_neg (by omega), if_neg (by omega), if_neg (by omega), if_neg (by omega), if_neg (by omega)])
  · subst e
    refine x_tableIn 116 (xd DX8_count rfl) (by decide) (by decide) (by decide) rfl rfl ?_
    refine x_aload_n 117 (xd DX8_count rfl) rfl rfl ?_
    refine x_gr 120 _ LX8_60 (xd DX8_count rfl) rfl rfl ⟨by decide, by decide⟩ (by decide) rfl rfl ?_
    refine x_gz 123 5 rfl LX8_237 (xd DX8_count rfl) rfl ⟨Or.inr ⟨rfl, by decide⟩, by decide⟩ rfl ?_
    refine x_if_eq 126 130 (xd DX8_count rfl) rfl (by omega) rfl (fun c123 => ?_) (fun c123 => ?_)
    · refine x_iconst 131 (xd DX8_count rfl) rfl ?_
      refine x_ri (xd DX8_count rfl) rfl ?_
      refine ⟨?_, rfl⟩
      unfold countC
      first | rfl | (show _ = h 255 5; omega) | (rw [if_neg (by omega), if_neg (by omega), if_neg (by omega), if_neg (by omega), if_neg (by omega), if_neg (by omega), if_neg (by omega), if_neg (by omega), if_neg (by omega)])
    · refine x_iconst 127 (xd DX8_count rfl) rfl ?_
      refine x_goto 131 (xd DX8_count rfl) rfl ?_
      refine x_ri (xd DX8_count rfl) rfl ?_
      refine ⟨?_, rfl⟩
      unfold countC
      first | rfl | (show _ = h 255 5; omega) | (rw [if_neg (by omega), if_neg (by omega), if_neg (by omega), if_neg (by omega), if_neg (by omega), if_neg (by omega), if_neg (by omega), if_neg (by omega), if_neg (by omega)])
  · refine x_tableOut 132 (xd DX8_count rfl) (hw) e rfl ?_
    refine x_iconst 133 (xd DX8_count rfl) rfl ?_
    refine x_ri (xd DX8_count rfl) rfl ?_
    refine ⟨?_, rfl⟩
    unfold countC
    first | rfl | (show _ = h 255 5; omega) | (rw [if_neg (by omega), if_neg (by omega), if_neg (by omega), if_neg (by omega), if_neg (by omega), if_neg (by omega), if_neg (by omega), if_neg (by omega), if_neg (by omega)])
end
section
/-! SqueezedCode: settle, hindranceTo, add, drop, wide, hold, undo -/
def SSe (x : Nat) : Prop := SL x ∨ x = 255
def SCh (x : Nat) : Prop := 8 ≤ x ∧ x ≤ 255
noncomputable def hindC (h : XH) (i m z : Int) : Int := pik ((0 ≤ i ∧ i < h 4 3) ∧ 2 ≤ m ∧ m ≤ 4 ∧ -1 ≤ z ∧ z < m) (pik (SqR h i m ∧ ¬ Alike h i m (if z < 0 then -4 else z)) (if h 8 1 < 8 then 0 else -3) (-2)) (-1)
/-- the history as a change leaves it -/
def KeptR (h h' : XH) : Prop := h' 34 1 = (if h 34 1 = 6 then 6 else h 34 1 + 1) ∧ (∀ k : Nat, (k : Int) < h' 34 1 - 1 → SEq h' (36 + 26 * k) h (36 + 26 * (if h 34 1 = 6 then k + 1 else k))) ∧ SEq h' (36 + 26 * (h' 34 1 - 1).toNat) h 8
def Chg (h h' : XH) : Prop := Off SCh h h' ∧ LY h' ∧ h' 255 5 = 0
theorem KeptR.off {S : Nat → Prop} {h h1 h2 : XH} (hH : HW h) (hS : SW h 8) (hK : KeptR h h1) (hO : Off S h1 h2) (hs : ∀ x, 34 ≤ x → x < 192 → ¬ S x) : KeptR h h2 := by
  obtain ⟨a, b, c⟩ := hK
  have hH1 := hH.1
  have e34 : h2 34 = h1 34 := hO 34 (hs 34 (by omega) (by omega))
  have key : ∀ k : Nat, k < 6 → h1 (36 + 26 * k) 1 ≤ 8 → SEq h2 (36 + 26 * k) h1 (36 + 26 * k) := fun k q q2 => SEq.off hO (fun x z => hs x (by unfold S26 at z; omega) (by unfold S26 at z; omega)) q2
  refine ⟨by rw [e34]; exact a, fun k q => ?_, ?_⟩
  · rw [e34] at q
    have b1 := b k q
    refine (key k (by split at a <;> omega) ?_).tr b1
    rw [b1.1]
    by_cases z : h 34 1 = 6
    · rw [if_pos z]; exact (hH.2 (k + 1) (by rw [if_pos z] at a; omega)).1.2
    · rw [if_neg z]; exact (hH.2 k (by rw [if_neg z] at a; omega)).1.2
  · rw [e34]
    refine (key _ (by split at a <;> omega) ?_).tr c
    rw [c.1]
    exact hS.1.2
set_option maxRecDepth 100000 in
set_option maxHeartbeats 4000000 in
theorem pX8_settle {K : XK} {n : Nat} {h : XH} (hP : PW h) (hS : SW h 8) : MV K mX8_settle 5 n [vr 0] h (fun h' => Off SSe h h' ∧ LY h' ∧ h' 255 5 = 0) := by
  refine xMeth FX8_settle (Nat.le_of_ble_eq_true rfl) ?_
  refine x_aload_n 1 (xd DX8_settle rfl) rfl rfl ?_
  refine x_gr 4 _ LX8_42 (xd DX8_settle rfl) rfl rfl ⟨by decide, by decide⟩ (by decide) rfl rfl ?_
  refine x_Vv 7 (pX3_reckon hP hS) FX3_reckon VX3_reckon CX8_90 (xd DX8_settle rfl) rfl rfl rfl ⟨by decide, rfl⟩ ⟨by decide, by decide⟩ (by decide) (Nat.le_of_ble_eq_true rfl) (by decide) rfl ?_
  rintro h1 ⟨o1, l1⟩
  refine x_aload_n 8 (xd DX8_settle rfl) rfl rfl ?_
  refine x_gr 11 _ LX8_60 (xd DX8_settle rfl) rfl rfl ⟨by decide, by decide⟩ (by decide) rfl rfl ?_
  refine x_Vv 14 (pX5_end) FX5_end VX5_end CX8_166 (xd DX8_settle rfl) rfl rfl rfl ⟨by decide, rfl⟩ ⟨by decide, by decide⟩ (by decide) (Nat.le_of_ble_eq_true rfl) (by decide) rfl ?_
  rintro h2 q2
  rw [q2]
  clear q2 h2
  refine x_rv (xd DX8_settle rfl) rfl ?_
  have P1 : PW h1 := hP.off o1 (by unfold SL; omega) (by unfold SL; omega) (by unfold SL; omega) (by unfold SL; omega)
  have S1 : SW h1 8 := by
    obtain ⟨a, b, c, d⟩ := hS
    have e8 : h1 8 = h 8 := o1 8 (by unfold SL; omega)
    refine ⟨by rw [e8]; exact a, by rw [e8]; exact b, by rw [e8]; exact c, fun e he => ?_⟩
    rw [e8] at he
    exact (d e he).off o1 (by unfold SL; omega) (by unfold SL; omega) (by unfold SL; omega)
  exact ⟨(o1.mono (fun x q => Or.inl q)).tr (Off.set (Or.inr rfl)), l1.off (ocell (c := 255)) (fun c q => by omega) P1 S1, hset_s⟩

set_option maxRecDepth 100000 in
set_option maxHeartbeats 4000000 in
theorem pX8_hindranceTo {K : XK} {n : Nat} {h : XH} (i m z : Int) (hP : PW h) (hS : SW h 8) (hL : LY h) (hi : xrg i) (hm : xrg m) (hz : xrg z) : MI K mX8_hindranceTo 2 n [vr 0, vi i, vi m, vi z] h (fun zr h' => zr = hindC h i m z ∧ h' = h) := by
  refine xMeth FX8_hindranceTo (Nat.le_of_ble_eq_true rfl) ?_
  have hP1 := hP.1
  have hS1 := hS.1
  refine x_aload_n 1 (xd DX8_hindranceTo rfl) rfl rfl ?_
  refine x_gr 4 _ LX8_19 (xd DX8_hindranceTo rfl) rfl rfl ⟨by decide, by decide⟩ (by decide) rfl rfl ?_
  refine x_iload_n 5 (xd DX8_hindranceTo rfl) rfl rfl ?_
  refine x_Vi 8 (pX4_has i hi (by omega)) FX4_has VX4_has CX8_108 (xd DX8_hindranceTo rfl) rfl rfl rfl ⟨by decide, rfl⟩ ⟨by decide, by decide⟩ (by decide) (Nat.le_of_ble_eq_true rfl) (by decide) rfl ?_
  rintro z9 h9 ⟨q1, q2⟩
  rw [q1, q2]
  clear q1 q2 z9 h9
  refine x_ifp_eq 11 31 (xd DX8_hindranceTo rfl) rfl rfl (fun c8 => ?_) (fun c8 => ?_)
  · refine x_iconst 32 (xd DX8_hindranceTo rfl) rfl ?_
    refine x_ri (xd DX8_hindranceTo rfl) rfl ?_
    refine ⟨?_, rfl⟩
    unfold hindC
    rw [pik_f (by omega)]
  · refine x_iload_n 12 (xd DX8_hindranceTo rfl) rfl rfl ?_
    refine x_iconst 13 (xd DX8_hindranceTo rfl) rfl ?_
    refine x_icmp_lt 16 31 (xd DX8_hindranceTo rfl) rfl (by omega) (by omega) rfl (fun c13 => ?_) (fun c13 => ?_)
    · refine x_iconst 32 (xd DX8_hindranceTo rfl) rfl ?_
      refine x_ri (xd DX8_hindranceTo rfl) rfl ?_
      refine ⟨?_, rfl⟩
      unfold hindC
      rw [pik_f (by omega)]
    · refine x_iload_n 17 (xd DX8_hindranceTo rfl) rfl rfl ?_
      refine x_iconst 18 (xd DX8_hindranceTo rfl) rfl ?_
      refine x_icmp_gt 21 31 (xd DX8_hindranceTo rfl) rfl (by omega) (by omega) rfl (fun c18 => ?_) (fun c18 => ?_)
      · refine x_iconst 32 (xd DX8_hindranceTo rfl) rfl ?_
        refine x_ri (xd DX8_hindranceTo rfl) rfl ?_
        refine ⟨?_, rfl⟩
        unfold hindC
        rw [pik_f (by omega)]
      · refine x_iload_n 22 (xd DX8_hindranceTo rfl) rfl rfl ?_
        refine x_iconst 23 (xd DX8_hindranceTo rfl) rfl ?_
        refine x_icmp_lt 26 31 (xd DX8_hindranceTo rfl) rfl (by omega) (by omega) rfl (fun c23 => ?_) (fun c23 => ?_)
        · refine x_iconst 32 (xd DX8_hindranceTo rfl) rfl ?_
          refine x_ri (xd DX8_hindranceTo rfl) rfl ?_
          refine ⟨?_, rfl⟩
          unfold hindC
          rw [pik_f (by omega)]
        · refine x_iload_n 27 (xd DX8_hindranceTo rfl) rfl rfl ?_
          refine x_iload_n 28 (xd DX8_hindranceTo rfl) rfl rfl ?_
          refine x_icmp_lt 31 33 (xd DX8_hindranceTo rfl) rfl (by omega) (by omega) rfl (fun c28 => ?_) (fun c28 => ?_)
          · refine x_aload_n 34 (xd DX8_hindranceTo rfl) rfl rfl ?_
            refine x_gr 37 _ LX8_42 (xd DX8_hindranceTo rfl) rfl rfl ⟨by decide, by decide⟩ (by decide) rfl rfl ?_
            refine x_iload_n 38 (xd DX8_hindranceTo rfl) rfl rfl ?_
            refine x_iload_n 39 (xd DX8_hindranceTo rfl) rfl rfl ?_
            refine x_Vi 42 (pX3_isSequence i m hP hi hm hL.hr) FX3_isSequence VX3_isSequence CX8_269 (xd DX8_hindranceTo rfl) rfl rfl rfl ⟨by decide, rfl⟩ ⟨by decide, by decide⟩ (by decide) (Nat.le_of_ble_eq_true rfl) (by decide) rfl ?_
            rintro z9 h9 ⟨q1, q2⟩
            rw [q1, q2]
            clear q1 q2 z9 h9
            rw [show ((0 ≤ i ∧ i < h 4 3) ∧ 2 ≤ m ∧ m ≤ h 193 i) = SqR h i m from rfl]
            refine x_ifp_eq 45 62 (xd DX8_hindranceTo rfl) rfl rfl (fun c42 => ?_) (fun c42 => ?_)
            · have hno : ¬ (SqR h i m ∧ ¬ Alike h i m (if z < 0 then -4 else z)) := fun q => c42 q.1
              
              refine x_bipush 64 (xd DX8_hindranceTo rfl) rfl rfl ?_
              refine x_ri (xd DX8_hindranceTo rfl) rfl ?_
              refine ⟨?_, rfl⟩
              unfold hindC
              rw [pik_t ⟨c8, by omega, by omega, by omega, by omega⟩, pik_f hno]
            · refine x_aload_n 46 (xd DX8_hindranceTo rfl) rfl rfl ?_
              refine x_gr 49 _ LX8_26 (xd DX8_hindranceTo rfl) rfl rfl ⟨by decide, by decide⟩ (by decide) rfl rfl ?_
              refine x_aload_n 50 (xd DX8_hindranceTo rfl) rfl rfl ?_
              refine x_gr 53 _ LX8_19 (xd DX8_hindranceTo rfl) rfl rfl ⟨by decide, by decide⟩ (by decide) rfl rfl ?_
              refine x_iload_n 54 (xd DX8_hindranceTo rfl) rfl rfl ?_
              refine x_iload_n 55 (xd DX8_hindranceTo rfl) rfl rfl ?_
              refine x_iload_n 56 (xd DX8_hindranceTo rfl) rfl rfl ?_
              refine x_Vi 59 (pX6_hasAlike i m z hP hS hi hm hz) FX6_hasAlike VX6_hasAlike CX8_273 (xd DX8_hindranceTo rfl) rfl rfl rfl ⟨by decide, rfl⟩ ⟨by decide, by decide⟩ (by decide) (Nat.le_of_ble_eq_true rfl) (by decide) rfl ?_
              rintro z9 h9 ⟨q1, q2⟩
              rw [q1, q2]
              clear q1 q2 z9 h9
              refine x_ifp_eq 62 65 (xd DX8_hindranceTo rfl) rfl rfl (fun c59 => ?_) (fun c59 => ?_)
              · refine x_aload_n 66 (xd DX8_hindranceTo rfl) rfl rfl ?_
                refine x_gr 69 _ LX8_26 (xd DX8_hindranceTo rfl) rfl rfl ⟨by decide, by decide⟩ (by decide) rfl rfl ?_
                refine x_gi 72 1 rfl LX8_97 (xd DX8_hindranceTo rfl) rfl ⟨Or.inr ⟨rfl, by decide⟩, by decide⟩ rfl ?_
                refine x_bipush 74 (xd DX8_hindranceTo rfl) rfl rfl ?_
                refine x_icmp_ge 77 81 (xd DX8_hindranceTo rfl) rfl (by omega) (by omega) rfl (fun c74 => ?_) (fun c74 => ?_)
                · refine x_bipush 83 (xd DX8_hindranceTo rfl) rfl rfl ?_
                  refine x_ri (xd DX8_hindranceTo rfl) rfl ?_
                  refine ⟨?_, rfl⟩
                  unfold hindC
                  rw [pik_t ⟨c8, by omega, by omega, by omega, by omega⟩, pik_t ⟨c42, c59⟩]
                  first | rw [if_pos c74] | rw [if_neg (by omega)]
                · refine x_iconst 78 (xd DX8_hindranceTo rfl) rfl ?_
                  refine x_goto 83 (xd DX8_hindranceTo rfl) rfl ?_
                  refine x_ri (xd DX8_hindranceTo rfl) rfl ?_
                  refine ⟨?_, rfl⟩
                  unfold hindC
                  rw [pik_t ⟨c8, by omega, by omega, by omega, by omega⟩, pik_t ⟨c42, c59⟩]
                  first | rw [if_pos c74] | rw [if_neg (by omega)]
              · have hno : ¬ (SqR h i m ∧ ¬ Alike h i m (if z < 0 then -4 else z)) := fun q => q.2 c59
                
                refine x_bipush 64 (xd DX8_hindranceTo rfl) rfl rfl ?_
                refine x_ri (xd DX8_hindranceTo rfl) rfl ?_
                refine ⟨?_, rfl⟩
                unfold hindC
                rw [pik_t ⟨c8, by omega, by omega, by omega, by omega⟩, pik_f hno]
          · refine x_iconst 32 (xd DX8_hindranceTo rfl) rfl ?_
            refine x_ri (xd DX8_hindranceTo rfl) rfl ?_
            refine ⟨?_, rfl⟩
            unfold hindC
            rw [pik_f (by omega)]
end
section
/-! SqueezedCode: the changes -/
theorem SW.same {h xg : XH} {s : Nat} (hs : ∀ x, S26 s x → xg x = h x) (hS : SW h s) : SW xg s :=
  (SEq.off (S := fun x => xg x ≠ h x) (fun x q => Classical.byContradiction q) (fun x z q => q (hs x z)) hS.1.2).sw hS
theorem SEq.same {h xg : XH} {s : Nat} (hs : ∀ x, S26 s x → xg x = h x) (h8 : h s 1 ≤ 8) : SEq xg s h s :=
  SEq.off (S := fun x => xg x ≠ h x) (fun x q => Classical.byContradiction q) (fun x z q => q (hs x z)) h8
theorem HW.same {h xg : XH} (hs : ∀ x, 34 ≤ x → x < 192 → xg x = h x) (hH : HW h) : HW xg := by
  obtain ⟨a, b⟩ := hH
  have e34 := hs 34 (by omega) (by omega)
  refine ⟨by rw [e34]; exact a, fun k q => ?_⟩
  rw [e34] at q
  exact (b k q).same (fun x z => hs x (by unfold S26 at z; omega) (by unfold S26 at z; omega))
theorem KeptR.hw {h h1 : XH} (hH : HW h) (hS : SW h 8) (hK : KeptR h h1) : HW h1 := by
  obtain ⟨a, b, c⟩ := hK
  have hH1 := hH.1
  refine ⟨by split at a <;> omega, fun k q => ?_⟩
  by_cases z : (k : Int) < h1 34 1 - 1
  · refine (b k z).sw ?_
    by_cases y : h 34 1 = 6
    · rw [if_pos y]; rw [if_pos y] at a; exact hH.2 (k + 1) (by omega)
    · rw [if_neg y]; rw [if_neg y] at a; exact hH.2 k (by omega)
  · rw [show k = (h1 34 1 - 1).toNat by omega]; exact c.sw hS
/-- a change's outcome: the class's picture again, the run ended, the program and the text as they were -/
def Cgd (h h' : XH) : Prop := Off SCh h h' ∧ CI h' ∧ h' 255 5 = 0
theorem Cgd.mk1 {h h2 h3 : XH} (hC : CI h) (hO : Off SCh h h2) (hH : HW h2) (hS : SW h2 8) (hO2 : Off SSe h2 h3) (hL : LY h3) (h5 : h3 255 5 = 0) : Cgd h h3 ∧ SEq h3 8 h2 8 ∧ (∀ x, 34 ≤ x → x < 192 → h3 x = h2 x) := by
  have hq : ∀ x, x < 192 → h3 x = h2 x := fun x q => hO2 x (by unfold SSe SL; omega)
  have oo : Off SCh h h3 := hO.tr (hO2.mono (fun x q => by unfold SSe SL at q; unfold SCh; omega))
  refine ⟨⟨oo, ⟨hC.1.off oo (by unfold SCh; omega) (by unfold SCh; omega) (by unfold SCh; omega) (by unfold SCh; omega), hS.same (fun x z => hq x (by unfold S26 at z; omega)), hH.same (fun x _ z => hq x z), hL, Or.inl h5, fun q => by omega, ?_, ?_⟩, h5⟩, SEq.same (fun x z => hq x (by unfold S26 at z; omega)) hS.1.2, fun x _ z => hq x z⟩
  · rw [oo 1 (by unfold SCh; omega)]; exact hC.2.2.2.2.2.2.1
  · rw [oo 1 (by unfold SCh; omega), oo 2 (by unfold SCh; omega)]; exact hC.2.2.2.2.2.2.2
theorem hindC_0 {h : XH} {i m z : Int} (q : hindC h i m z = 0) : ((0 ≤ i ∧ i < h 4 3) ∧ 2 ≤ m ∧ m ≤ 4 ∧ -1 ≤ z ∧ z < m) ∧ (SqR h i m ∧ ¬ Alike h i m (if z < 0 then -4 else z)) ∧ h 8 1 < 8 := by
  unfold hindC at q
  by_cases a : (0 ≤ i ∧ i < h 4 3) ∧ 2 ≤ m ∧ m ≤ 4 ∧ -1 ≤ z ∧ z < m
  · rw [pik_t a] at q
    by_cases b : SqR h i m ∧ ¬ Alike h i m (if z < 0 then -4 else z)
    · rw [pik_t b] at q
      exact ⟨a, b, by split at q <;> omega⟩
    · rw [pik_f b] at q; omega
  · rw [pik_f a] at q; omega
theorem hindC_rg (h : XH) (i m z : Int) : xrg (hindC h i m z) := by
  unfold hindC
  by_cases a : (0 ≤ i ∧ i < h 4 3) ∧ 2 ≤ m ∧ m ≤ 4 ∧ -1 ≤ z ∧ z < m
  · rw [pik_t a]
    by_cases b : SqR h i m ∧ ¬ Alike h i m (if z < 0 then -4 else z)
    · rw [pik_t b]; split <;> decide
    · rw [pik_f b]; decide
  · rw [pik_f a]; decide
/-- the table with one more entry -/
def AddR (h h' : XH) (i m z : Int) : Prop := h' 8 1 = h 8 1 + 1 ∧ h' 8 2 = h 8 2 ∧ h' 8 3 = h 8 3 ∧ (∀ e : Nat, (e : Int) < h 8 1 → EEq h' (10 + 3 * e) h (10 + 3 * e)) ∧ Took h' (10 + 3 * (h 8 1).toNat) h i m z
def DrpR (h h' : XH) (e : Nat) : Prop := h' 8 1 = h 8 1 - 1 ∧ h' 8 2 = h 8 2 ∧ h' 8 3 = h 8 3 ∧ ∀ x : Nat, (x : Int) < h 8 1 - 1 → EEq h' (10 + 3 * x) h (10 + 3 * (if x < e then x else x + 1))
theorem AddR.sw {h h' : XH} {i m z : Int} (hA : AddR h h' i m z) (hS : SW h 8) (hP : PW h) (hq : SqOk h i m) (h8 : h 8 1 < 8) (hz : -1 ≤ z ∧ z < m) : SW h' 8 := by
  obtain ⟨a, b, c, d, e⟩ := hA
  have hS1 := hS.1
  refine ⟨by omega, by rw [b]; exact hS.2.1, by rw [c]; exact hS.2.2.1, fun x hx => ?_⟩
  by_cases q : (x : Int) < h 8 1
  · exact (d x q).ew (hS.ew q)
  · rw [show 8 + 2 + 3 * x = 10 + 3 * (h 8 1).toNat by omega]; exact e.ew hP hq hz
theorem DrpR.sw {h h' : XH} {e : Nat} (hA : DrpR h h' e) (hS : SW h 8) (he : (e : Int) < h 8 1) : SW h' 8 := by
  obtain ⟨a, b, c, d⟩ := hA
  have hS1 := hS.1
  refine ⟨by omega, by rw [b]; exact hS.2.1, by rw [c]; exact hS.2.2.1, fun x hx => ?_⟩
  refine (d x (by omega)).ew (hS.ew ?_)
  split <;> omega
theorem SqOk.off {S : Nat → Prop} {h xg : XH} (hO : Off S h xg) (h4 : ¬ S 4) (h5 : ¬ S 5) {i m : Int} (hq : SqOk h i m) : SqOk xg i m := by
  unfold SqOk at hq ⊢
  rw [hO 4 h4, hO 5 h5]; exact hq
/-- a changed table told of the heap before the keeping -/
theorem AddR.off {h h1 h2 h3 : XH} {i m z : Int} (h8 : ∀ x, x < 34 → h1 x = h x) (hS : SW h 8) (hlt : h 8 1 < 8) (hA : AddR h1 h2 i m z) (hs : SEq h3 8 h2 8) (hm : m ≤ 4) : AddR h h3 i m z := by
  obtain ⟨a, b, c, d, e⟩ := hA
  obtain ⟨p, q, r, s⟩ := hs
  have hS1 := hS.1
  have e8 := h8 8 (by omega)
  have ee : ∀ x : Nat, x < 8 → EEq h1 (10 + 3 * x) h (10 + 3 * x) := fun x y => EEq.off (S := fun x => h1 x ≠ h x) (fun x q => Classical.byContradiction q) (fun q => q (h8 _ (by omega))) (fun q => q (h8 _ (by omega))) (fun q => q (h8 _ (by omega)))
  rw [e8] at a b c d e
  refine ⟨by omega, by omega, by omega, fun x y => ?_, ?_⟩
  · exact ((s x (by omega)).tr (d x y)).tr (ee x (by omega))
  · have s1 := s (h 8 1).toNat (by omega)
    rw [show 8 + 2 + 3 * (h 8 1).toNat = 10 + 3 * (h 8 1).toNat by omega] at s1
    obtain ⟨t1, t2, t3⟩ := e
    refine ⟨s1.1.trans t1, s1.2.1.trans t2, fun j u v => ?_⟩
    have k1 := s1.2.2 j u (by omega)
    have k2 := t3 j u v
    rw [k1.1, k1.2, k2.1, k2.2, h8 5 (by omega), h8 6 (by omega)]
    exact ⟨rfl, rfl⟩
theorem DrpR.off {h h1 h2 h3 : XH} {e : Nat} (h8 : ∀ x, x < 34 → h1 x = h x) (hS : SW h 8) (hA : DrpR h1 h2 e) (hs : SEq h3 8 h2 8) : DrpR h h3 e := by
  obtain ⟨a, b, c, d⟩ := hA
  obtain ⟨p, q, r, s⟩ := hs
  have hS1 := hS.1
  have e8 := h8 8 (by omega)
  have ee : ∀ x : Nat, x < 8 → EEq h1 (10 + 3 * x) h (10 + 3 * x) := fun x y => EEq.off (S := fun x => h1 x ≠ h x) (fun x q => Classical.byContradiction q) (fun q => q (h8 _ (by omega))) (fun q => q (h8 _ (by omega))) (fun q => q (h8 _ (by omega)))
  rw [e8] at a b c d
  refine ⟨by omega, by omega, by omega, fun x y => ?_⟩
  exact ((s x (by omega)).tr (d x y)).tr (ee _ (by split <;> omega))
set_option maxRecDepth 100000 in
set_option maxHeartbeats 4000000 in
theorem pX8_add {K : XK} {n : Nat} {h : XH} (i m z : Int) (hC : CI h) (hi : xrg i) (hm : xrg m) (hz : xrg z) : MI K mX8_add 6 n [vr 0, vi i, vi m, vi z] h (fun zr h' => (hindC h i m z ≠ 0 → zr = hindC h i m z ∧ h' = h) ∧ (hindC h i m z = 0 → Cgd h h' ∧ KeptR h h' ∧ zr = h 8 1 ∧ AddR h h' i m z)) := by
  refine xMeth FX8_add (Nat.le_of_ble_eq_true rfl) ?_
  have hP := hC.1
  have hS := hC.2.1
  have hH := hC.2.2.1
  have hL := hC.2.2.2.1
  have hP1 := hP.1
  have hS1 := hS.1
  have hS2 := hS.2.1
  have hS3 := hS.2.2.1
  have hind := hindC_rg h i m z
  refine x_aload_n 1 (xd DX8_add rfl) rfl rfl ?_
  refine x_iload_n 2 (xd DX8_add rfl) rfl rfl ?_
  refine x_iload_n 3 (xd DX8_add rfl) rfl rfl ?_
  refine x_iload_n 4 (xd DX8_add rfl) rfl rfl ?_
  refine x_Vi 7 (pX8_hindranceTo i m z hP hS hL hi hm hz) FX8_hindranceTo VX8_hindranceTo CX8_133 (xd DX8_add rfl) rfl rfl rfl ⟨by decide, rfl⟩ ⟨by decide, by decide⟩ (by decide) (Nat.le_of_ble_eq_true rfl) (by decide) rfl ?_
  rintro z9 h9 ⟨q1, q2⟩
  rw [q1, q2]
  clear q1 q2 z9 h9
  refine x_istore 9 (L' := [(0, _), (1, _), (2, _), (3, _), (4, _)]) (xd DX8_add rfl) (by decide) rfl rfl rfl ?_
  refine x_iload 11 (xd DX8_add rfl) rfl rfl ?_
  refine x_if_eq 14 17 (xd DX8_add rfl) rfl (by omega) rfl (fun c11 => ?_) (fun c11 => ?_)
  · obtain ⟨f1, f2, f3'⟩ := hindC_0 c11
    have sq := f2.1.ok hL f1.2.2.1
    refine x_aload_n 18 (xd DX8_add rfl) rfl rfl ?_
    refine x_gr 21 _ LX8_33 (xd DX8_add rfl) rfl rfl ⟨by decide, by decide⟩ (by decide) rfl rfl ?_
    refine x_aload_n 22 (xd DX8_add rfl) rfl rfl ?_
    refine x_gr 25 _ LX8_26 (xd DX8_add rfl) rfl rfl ⟨by decide, by decide⟩ (by decide) rfl rfl ?_
    refine x_Vv 28 (pX2_keep hH hS) FX2_keep VX2_keep CX8_137 (xd DX8_add rfl) rfl rfl rfl ⟨by decide, rfl⟩ ⟨by decide, by decide⟩ (by decide) (Nat.le_of_ble_eq_true rfl) (by decide) rfl ?_
    rintro h1 ⟨o1, k1⟩
    have l1 : ∀ x, x < 34 → h1 x = h x := fun x q => o1 x (by unfold SHi; omega)
    have HW1 : HW h1 := KeptR.hw hH hS k1
    have SW1 : SW h1 8 := hS.same (fun x q => l1 x (by unfold S26 at q; omega))
    have PW1 : PW h1 := hP.off o1 (by unfold SHi; omega) (by unfold SHi; omega) (by unfold SHi; omega) (by unfold SHi; omega)
    have e8 := l1 8 (by omega)
    have e4 := l1 4 (by omega)
    have KR1 : KeptR h h1 := k1
    refine x_aload_n 29 (xd DX8_add rfl) rfl rfl ?_
    refine x_gr 32 _ LX8_26 (xd DX8_add rfl) rfl rfl ⟨by decide, by decide⟩ (by decide) rfl rfl ?_
    refine x_gi 35 1 rfl LX8_97 (xd DX8_add rfl) rfl ⟨Or.inr ⟨rfl, by decide⟩, by decide⟩ rfl ?_
    refine x_istore 37 (L' := [(0, _), (1, _), (2, _), (3, _), (4, _), (5, _)]) (xd DX8_add rfl) (by decide) rfl rfl rfl ?_
    refine x_aload_n 38 (xd DX8_add rfl) rfl rfl ?_
    refine x_gr 41 _ LX8_26 (xd DX8_add rfl) rfl rfl ⟨by decide, by decide⟩ (by decide) rfl rfl ?_
    refine x_aload_n 42 (xd DX8_add rfl) rfl rfl ?_
    refine x_gr 45 _ LX8_19 (xd DX8_add rfl) rfl rfl ⟨by decide, by decide⟩ (by decide) rfl rfl ?_
    refine x_iload_n 46 (xd DX8_add rfl) rfl rfl ?_
    refine x_iload_n 47 (xd DX8_add rfl) rfl rfl ?_
    refine x_iload_n 48 (xd DX8_add rfl) rfl rfl ?_
    refine x_Vv 51 (pX6_append i m z (by rw [e8]; omega) (by omega) (by omega) (by have := sq.2.2.2.1; omega) hz) FX6_append VX6_append CX8_141 (xd DX8_add rfl) rfl rfl rfl ⟨by decide, rfl⟩ ⟨by decide, by decide⟩ (by decide) (Nat.le_of_ble_eq_true rfl) (by decide) rfl ?_
    rintro h2 ⟨o2, a2⟩
    have a2 : AddR h1 h2 i m z := a2
    have SW2 : SW h2 8 := a2.sw SW1 PW1 (sq.off o1 (by unfold SHi; omega) (by unfold SHi; omega)) (by rw [e8]; omega) (by omega)
    have HW2 : HW h2 := HW1.same (fun x q r => o2 x (by unfold ST; omega))
    have PW2 : PW h2 := PW1.off o2 (by unfold ST; omega) (by unfold ST; omega) (by unfold ST; omega) (by unfold ST; omega)
    refine x_aload_n 52 (xd DX8_add rfl) rfl rfl ?_
    refine x_Vv 55 (pX8_settle PW2 SW2) FX8_settle VX8_settle CX8_103 (xd DX8_add rfl) rfl rfl rfl ⟨by decide, rfl⟩ ⟨by decide, by decide⟩ (by decide) (Nat.le_of_ble_eq_true rfl) (by decide) rfl ?_
    rintro h3 ⟨o3, l3, f3⟩
    refine x_iload 57 (xd DX8_add rfl) rfl rfl ?_
    refine x_ri (xd DX8_add rfl) rfl ?_
    obtain ⟨g1, g2, g3⟩ := Cgd.mk1 hC ((o1.mono (fun x q => by unfold SHi at q; unfold SCh; omega)).tr (o2.mono (fun x q => by unfold ST at q; unfold SCh; omega))) HW2 SW2 o3 l3 f3
    have o4 : Off (fun x => ¬ (34 ≤ x ∧ x < 192)) h1 h3 := fun x q => by
      have q := Classical.not_not.mp q
      rw [g3 x q.1 q.2]; exact o2 x (by unfold ST; omega)
    exact ⟨fun q => absurd c11 q, fun _ => ⟨g1, KR1.off hH hS o4 (fun x a b q => q ⟨a, b⟩), by rw [e8], AddR.off l1 hS f3' a2 g2 (by omega)⟩⟩
  · refine x_iload 16 (xd DX8_add rfl) rfl rfl ?_
    refine x_ri (xd DX8_add rfl) rfl ?_
    exact ⟨fun _ => ⟨rfl, rfl⟩, fun q => absurd q c11⟩

set_option maxRecDepth 100000 in
set_option maxHeartbeats 4000000 in
theorem pX8_drop {K : XK} {n : Nat} {h : XH} (e : Int) (hC : CI h) (he : xrg e) : MI K mX8_drop 6 n [vr 0, vi e] h (fun zr h' => (¬ (0 ≤ e ∧ e < h 8 1) → zr = -1 ∧ h' = h) ∧ ((0 ≤ e ∧ e < h 8 1) → Cgd h h' ∧ KeptR h h' ∧ zr = h 8 1 - 1 ∧ DrpR h h' e.toNat)) := by
  refine xMeth FX8_drop (Nat.le_of_ble_eq_true rfl) ?_
  have hP := hC.1
  have hS := hC.2.1
  have hH := hC.2.2.1
  have hL := hC.2.2.2.1
  have hP1 := hP.1
  have hS1 := hS.1
  have hS2 := hS.2.1
  have hS3 := hS.2.2.1
  refine x_aload_n 1 (xd DX8_drop rfl) rfl rfl ?_
  refine x_gr 4 _ LX8_26 (xd DX8_drop rfl) rfl rfl ⟨by decide, by decide⟩ (by decide) rfl rfl ?_
  refine x_iload_n 5 (xd DX8_drop rfl) rfl rfl ?_
  refine x_Vi 8 (pX6_has e he (by omega)) FX6_has VX6_has CX8_144 (xd DX8_drop rfl) rfl rfl rfl ⟨by decide, rfl⟩ ⟨by decide, by decide⟩ (by decide) (Nat.le_of_ble_eq_true rfl) (by decide) rfl ?_
  rintro z9 h9 ⟨q1, q2⟩
  rw [q1, q2]
  clear q1 q2 z9 h9
  refine x_ifp_ne 11 13 (xd DX8_drop rfl) rfl rfl (fun c8 => ?_) (fun c8 => ?_)
  · obtain ⟨xe, rfl⟩ := Int.eq_ofNat_of_zero_le c8.1
    refine x_aload_n 14 (xd DX8_drop rfl) rfl rfl ?_
    refine x_gr 17 _ LX8_33 (xd DX8_drop rfl) rfl rfl ⟨by decide, by decide⟩ (by decide) rfl rfl ?_
    refine x_aload_n 18 (xd DX8_drop rfl) rfl rfl ?_
    refine x_gr 21 _ LX8_26 (xd DX8_drop rfl) rfl rfl ⟨by decide, by decide⟩ (by decide) rfl rfl ?_
    refine x_Vv 24 (pX2_keep hH hS) FX2_keep VX2_keep CX8_137 (xd DX8_drop rfl) rfl rfl rfl ⟨by decide, rfl⟩ ⟨by decide, by decide⟩ (by decide) (Nat.le_of_ble_eq_true rfl) (by decide) rfl ?_
    rintro h1 ⟨o1, k1⟩
    have l1 : ∀ x, x < 34 → h1 x = h x := fun x q => o1 x (by unfold SHi; omega)
    have HW1 : HW h1 := KeptR.hw hH hS k1
    have SW1 : SW h1 8 := hS.same (fun x q => l1 x (by unfold S26 at q; omega))
    have PW1 : PW h1 := hP.off o1 (by unfold SHi; omega) (by unfold SHi; omega) (by unfold SHi; omega) (by unfold SHi; omega)
    have e8 := l1 8 (by omega)
    have e4 := l1 4 (by omega)
    have KR1 : KeptR h h1 := k1
    refine x_aload_n 25 (xd DX8_drop rfl) rfl rfl ?_
    refine x_gr 28 _ LX8_26 (xd DX8_drop rfl) rfl rfl ⟨by decide, by decide⟩ (by decide) rfl rfl ?_
    refine x_iload_n 29 (xd DX8_drop rfl) rfl rfl ?_
    refine x_Vv 32 (pX6_remove xe (by rw [e8]; omega) (by rw [e8]; omega)) FX6_remove VX6_remove CX8_145 (xd DX8_drop rfl) rfl rfl rfl ⟨by decide, rfl⟩ ⟨by decide, by decide⟩ (by decide) (Nat.le_of_ble_eq_true rfl) (by decide) rfl ?_
    rintro h2 ⟨o2, a2⟩
    have a2 : DrpR h1 h2 xe := a2
    have SW2 : SW h2 8 := a2.sw SW1 (by rw [e8]; omega)
    have HW2 : HW h2 := HW1.same (fun x q r => o2 x (by unfold ST; omega))
    have PW2 : PW h2 := PW1.off o2 (by unfold ST; omega) (by unfold ST; omega) (by unfold ST; omega) (by unfold ST; omega)
    refine x_aload_n 33 (xd DX8_drop rfl) rfl rfl ?_
    refine x_Vv 36 (pX8_settle PW2 SW2) FX8_settle VX8_settle CX8_103 (xd DX8_drop rfl) rfl rfl rfl ⟨by decide, rfl⟩ ⟨by decide, by decide⟩ (by decide) (Nat.le_of_ble_eq_true rfl) (by decide) rfl ?_
    rintro h3 ⟨o3, l3, f3⟩
    refine x_aload_n 37 (xd DX8_drop rfl) rfl rfl ?_
    refine x_gr 40 _ LX8_26 (xd DX8_drop rfl) rfl rfl ⟨by decide, by decide⟩ (by decide) rfl rfl ?_
    refine x_gi 43 1 rfl LX8_97 (xd DX8_drop rfl) rfl ⟨Or.inr ⟨rfl, by decide⟩, by decide⟩ rfl ?_
    refine x_ri (xd DX8_drop rfl) rfl ?_
    obtain ⟨g1, g2, g3⟩ := Cgd.mk1 hC ((o1.mono (fun x q => by unfold SHi at q; unfold SCh; omega)).tr (o2.mono (fun x q => by unfold ST at q; unfold SCh; omega))) HW2 SW2 o3 l3 f3
    have o4 : Off (fun x => ¬ (34 ≤ x ∧ x < 192)) h1 h3 := fun x q => by
      have q := Classical.not_not.mp q
      rw [g3 x q.1 q.2]; exact o2 x (by unfold ST; omega)
    have a3 := DrpR.off l1 hS a2 g2
    exact ⟨fun q => absurd c8 q, fun _ => ⟨g1, KR1.off hH hS o4 (fun x a b q => q ⟨a, b⟩), by rw [a3.1], a3⟩⟩
  · refine x_iconst 12 (xd DX8_drop rfl) rfl ?_
    refine x_ri (xd DX8_drop rfl) rfl ?_
    exact ⟨fun _ => ⟨rfl, rfl⟩, fun q => absurd q c8⟩
end
section
/-! SqueezedCode: wide, hold, undo -/
/-- the table with another width and number held -/
def SetR (h h' : XH) (b c : Int) : Prop := h' 8 1 = h 8 1 ∧ h' 8 2 = b ∧ h' 8 3 = c ∧ ∀ e : Nat, (e : Int) < h 8 1 → EEq h' (10 + 3 * e) h (10 + 3 * e)
theorem SetR.mk1 {h h1 h3 : XH} {k v : Int} (hk : k ≠ 1) (h8 : ∀ x, x < 34 → h1 x = h x) (hS : SW h 8) (hs : SEq h3 8 (hset h1 8 k v) 8) : SetR h h3 (hset h1 8 k v 8 2) (hset h1 8 k v 8 3) := by
  obtain ⟨p, q, r, s⟩ := hs
  have hS1 := hS.1
  have e8 := h8 8 (by omega)
  rw [hset_i (by omega), e8] at p s
  refine ⟨p, q, r, fun e y => ?_⟩
  have s1 := s e y
  rw [show 8 + 2 + 3 * e = 10 + 3 * e by omega] at s1
  refine s1.tr (EEq.off (S := fun x => hset h1 8 k v x ≠ h x) (fun x q => Classical.byContradiction q) ?_ ?_ ?_)
  all_goals (intro q9; apply q9; rw [hset_c (by omega)]; exact h8 _ (by omega))
set_option maxRecDepth 100000 in
set_option maxHeartbeats 4000000 in
theorem pX8_wide {K : XK} {n : Nat} {h : XH} (w : Int) (hC : CI h) (hi : xrg w) : MI K mX8_wide 6 n [vr 0, vi w] h (fun zr h' => (¬ (w = 4 ∨ w = 8 ∨ w = 16) → zr = -1 ∧ h' = h) ∧ ((w = 4 ∨ w = 8 ∨ w = 16) → w = h 8 2 → zr = -2 ∧ h' = h) ∧ ((w = 4 ∨ w = 8 ∨ w = 16) → w ≠ h 8 2 → Cgd h h' ∧ KeptR h h' ∧ zr = h 8 2 ∧ SetR h h' w (h 8 3))) := by
  refine xMeth FX8_wide (Nat.le_of_ble_eq_true rfl) ?_
  have hP := hC.1
  have hS := hC.2.1
  have hH := hC.2.2.1
  have hL := hC.2.2.2.1
  have hP1 := hP.1
  have hS1 := hS.1
  have hS2 := hS.2.1
  have hS3 := hS.2.2.1
  refine x_iload_n 1 (xd DX8_wide rfl) rfl rfl ?_
  refine x_iconst 2 (xd DX8_wide rfl) rfl ?_
  refine x_icmp_eq 5 19 (xd DX8_wide rfl) rfl (by omega) (by omega) rfl (fun c2 => ?_) (fun c2 => ?_)
  · refine x_aload_n 20 (xd DX8_wide rfl) rfl rfl ?_
    refine x_gr 23 _ LX8_26 (xd DX8_wide rfl) rfl rfl ⟨by decide, by decide⟩ (by decide) rfl rfl ?_
    refine x_gi 26 2 rfl LX8_186 (xd DX8_wide rfl) rfl ⟨Or.inr ⟨rfl, by decide⟩, by decide⟩ rfl ?_
    refine x_istore_n 27 (L' := [(0, _), (1, _), (2, _)]) (xd DX8_wide rfl) (by decide) rfl rfl rfl ?_
    refine x_iload_n 28 (xd DX8_wide rfl) rfl rfl ?_
    refine x_iload_n 29 (xd DX8_wide rfl) rfl rfl ?_
    refine x_icmp_ne 32 35 (xd DX8_wide rfl) rfl (by omega) (by omega) rfl (fun c29 => ?_) (fun c29 => ?_)
    · refine x_aload_n 36 (xd DX8_wide rfl) rfl rfl ?_
      refine x_gr 39 _ LX8_33 (xd DX8_wide rfl) rfl rfl ⟨by decide, by decide⟩ (by decide) rfl rfl ?_
      refine x_aload_n 40 (xd DX8_wide rfl) rfl rfl ?_
      refine x_gr 43 _ LX8_26 (xd DX8_wide rfl) rfl rfl ⟨by decide, by decide⟩ (by decide) rfl rfl ?_
      refine x_Vv 46 (pX2_keep hH hS) FX2_keep VX2_keep CX8_137 (xd DX8_wide rfl) rfl rfl rfl ⟨by decide, rfl⟩ ⟨by decide, by decide⟩ (by decide) (Nat.le_of_ble_eq_true rfl) (by decide) rfl ?_
      rintro h1 ⟨o1, k1⟩
      have l1 : ∀ x, x < 34 → h1 x = h x := fun x q => o1 x (by unfold SHi; omega)
      have HW1 : HW h1 := KeptR.hw hH hS k1
      have SW1 : SW h1 8 := hS.same (fun x q => l1 x (by unfold S26 at q; omega))
      have PW1 : PW h1 := hP.off o1 (by unfold SHi; omega) (by unfold SHi; omega) (by unfold SHi; omega) (by unfold SHi; omega)
      have e8 := l1 8 (by omega)
      have e4 := l1 4 (by omega)
      have KR1 : KeptR h h1 := k1
      have SW2 : SW (hset h1 8 2 w) 8 := by
        refine ⟨?_, ?_, ?_, fun e q => ?_⟩
        · rw [hset_i (by decide)]; exact SW1.1
        · rw [hset_s]; omega
        · rw [hset_i (by decide)]; exact SW1.2.2.1
        · rw [hset_i (by decide)] at q
          exact (SW1.2.2.2 e q).off (ocell (c := 8)) (by omega) (by omega) (by omega)
      have PW2 : PW (hset h1 8 2 w) := PW1.off (ocell (c := 8)) (by decide) (by decide) (by decide) (by decide)
      have HW2 : HW (hset h1 8 2 w) := HW1.same (fun x q r => hset_c (by omega))
      refine x_aload_n 47 (xd DX8_wide rfl) rfl rfl ?_
      refine x_gr 50 _ LX8_26 (xd DX8_wide rfl) rfl rfl ⟨by decide, by decide⟩ (by decide) rfl rfl ?_
      refine x_iload_n 51 (xd DX8_wide rfl) rfl rfl ?_
      refine x_pi 54 2 rfl LX8_186 (xd DX8_wide rfl) rfl rfl ⟨Or.inr ⟨rfl, by decide⟩, by decide⟩ rfl ?_
      refine x_aload_n 55 (xd DX8_wide rfl) rfl rfl ?_
      refine x_Vv 58 (pX8_settle PW2 SW2) FX8_settle VX8_settle CX8_103 (xd DX8_wide rfl) rfl rfl rfl ⟨by decide, rfl⟩ ⟨by decide, by decide⟩ (by decide) (Nat.le_of_ble_eq_true rfl) (by decide) rfl ?_
      rintro h3 ⟨o3, l3, f3⟩
      refine x_iload_n 59 (xd DX8_wide rfl) rfl rfl ?_
      refine x_ri (xd DX8_wide rfl) rfl ?_
      obtain ⟨g1, g2, g3⟩ := Cgd.mk1 hC ((o1.mono (fun x q => by unfold SHi at q; unfold SCh; omega)).tr (Off.set (c := 8) (k := 2) (z := w) (by unfold SCh; omega))) HW2 SW2 o3 l3 f3
      have o4 : Off (fun x => ¬ (34 ≤ x ∧ x < 192)) h1 h3 := fun x q => by
        have q := Classical.not_not.mp q
        rw [g3 x q.1 q.2]; exact hset_c (by omega)
      have g4 := SetR.mk1 (by decide) l1 hS g2
      rw [hset_s, hset_i (by decide), e8] at g4
      exact ⟨fun q => absurd q (by omega), fun _ q => absurd q (by omega), fun _ _ => ⟨g1, KR1.off hH hS o4 (fun x a b q => q ⟨a, b⟩), rfl, g4⟩⟩
    · refine x_bipush 34 (xd DX8_wide rfl) rfl rfl ?_
      refine x_ri (xd DX8_wide rfl) rfl ?_
      exact ⟨fun q => absurd q (by omega), fun _ _ => ⟨rfl, rfl⟩, fun _ q => absurd q (by omega)⟩
  · refine x_iload_n 6 (xd DX8_wide rfl) rfl rfl ?_
    refine x_bipush 8 (xd DX8_wide rfl) rfl rfl ?_
    refine x_icmp_eq 11 19 (xd DX8_wide rfl) rfl (by omega) (by omega) rfl (fun c8 => ?_) (fun c8 => ?_)
    · refine x_aload_n 20 (xd DX8_wide rfl) rfl rfl ?_
      refine x_gr 23 _ LX8_26 (xd DX8_wide rfl) rfl rfl ⟨by decide, by decide⟩ (by decide) rfl rfl ?_
      refine x_gi 26 2 rfl LX8_186 (xd DX8_wide rfl) rfl ⟨Or.inr ⟨rfl, by decide⟩, by decide⟩ rfl ?_
      refine x_istore_n 27 (L' := [(0, _), (1, _), (2, _)]) (xd DX8_wide rfl) (by decide) rfl rfl rfl ?_
      refine x_iload_n 28 (xd DX8_wide rfl) rfl rfl ?_
      refine x_iload_n 29 (xd DX8_wide rfl) rfl rfl ?_
      refine x_icmp_ne 32 35 (xd DX8_wide rfl) rfl (by omega) (by omega) rfl (fun c29 => ?_) (fun c29 => ?_)
      · refine x_aload_n 36 (xd DX8_wide rfl) rfl rfl ?_
        refine x_gr 39 _ LX8_33 (xd DX8_wide rfl) rfl rfl ⟨by decide, by decide⟩ (by decide) rfl rfl ?_
        refine x_aload_n 40 (xd DX8_wide rfl) rfl rfl ?_
        refine x_gr 43 _ LX8_26 (xd DX8_wide rfl) rfl rfl ⟨by decide, by decide⟩ (by decide) rfl rfl ?_
        refine x_Vv 46 (pX2_keep hH hS) FX2_keep VX2_keep CX8_137 (xd DX8_wide rfl) rfl rfl rfl ⟨by decide, rfl⟩ ⟨by decide, by decide⟩ (by decide) (Nat.le_of_ble_eq_true rfl) (by decide) rfl ?_
        rintro h1 ⟨o1, k1⟩
        have l1 : ∀ x, x < 34 → h1 x = h x := fun x q => o1 x (by unfold SHi; omega)
        have HW1 : HW h1 := KeptR.hw hH hS k1
        have SW1 : SW h1 8 := hS.same (fun x q => l1 x (by unfold S26 at q; omega))
        have PW1 : PW h1 := hP.off o1 (by unfold SHi; omega) (by unfold SHi; omega) (by unfold SHi; omega) (by unfold SHi; omega)
        have e8 := l1 8 (by omega)
        have e4 := l1 4 (by omega)
        have KR1 : KeptR h h1 := k1
        have SW2 : SW (hset h1 8 2 w) 8 := by
          refine ⟨?_, ?_, ?_, fun e q => ?_⟩
          · rw [hset_i (by decide)]; exact SW1.1
          · rw [hset_s]; omega
          · rw [hset_i (by decide)]; exact SW1.2.2.1
          · rw [hset_i (by decide)] at q
            exact (SW1.2.2.2 e q).off (ocell (c := 8)) (by omega) (by omega) (by omega)
        have PW2 : PW (hset h1 8 2 w) := PW1.off (ocell (c := 8)) (by decide) (by decide) (by decide) (by decide)
        have HW2 : HW (hset h1 8 2 w) := HW1.same (fun x q r => hset_c (by omega))
        refine x_aload_n 47 (xd DX8_wide rfl) rfl rfl ?_
        refine x_gr 50 _ LX8_26 (xd DX8_wide rfl) rfl rfl ⟨by decide, by decide⟩ (by decide) rfl rfl ?_
        refine x_iload_n 51 (xd DX8_wide rfl) rfl rfl ?_
        refine x_pi 54 2 rfl LX8_186 (xd DX8_wide rfl) rfl rfl ⟨Or.inr ⟨rfl, by decide⟩, by decide⟩ rfl ?_
        refine x_aload_n 55 (xd DX8_wide rfl) rfl rfl ?_
        refine x_Vv 58 (pX8_settle PW2 SW2) FX8_settle VX8_settle CX8_103 (xd DX8_wide rfl) rfl rfl rfl ⟨by decide, rfl⟩ ⟨by decide, by decide⟩ (by decide) (Nat.le_of_ble_eq_true rfl) (by decide) rfl ?_
        rintro h3 ⟨o3, l3, f3⟩
        refine x_iload_n 59 (xd DX8_wide rfl) rfl rfl ?_
        refine x_ri (xd DX8_wide rfl) rfl ?_
        obtain ⟨g1, g2, g3⟩ := Cgd.mk1 hC ((o1.mono (fun x q => by unfold SHi at q; unfold SCh; omega)).tr (Off.set (c := 8) (k := 2) (z := w) (by unfold SCh; omega))) HW2 SW2 o3 l3 f3
        have o4 : Off (fun x => ¬ (34 ≤ x ∧ x < 192)) h1 h3 := fun x q => by
          have q := Classical.not_not.mp q
          rw [g3 x q.1 q.2]; exact hset_c (by omega)
        have g4 := SetR.mk1 (by decide) l1 hS g2
        rw [hset_s, hset_i (by decide), e8] at g4
        exact ⟨fun q => absurd q (by omega), fun _ q => absurd q (by omega), fun _ _ => ⟨g1, KR1.off hH hS o4 (fun x a b q => q ⟨a, b⟩), rfl, g4⟩⟩
      · refine x_bipush 34 (xd DX8_wide rfl) rfl rfl ?_
        refine x_ri (xd DX8_wide rfl) rfl ?_
        exact ⟨fun q => absurd q (by omega), fun _ _ => ⟨rfl, rfl⟩, fun _ q => absurd q (by omega)⟩
    · refine x_iload_n 12 (xd DX8_wide rfl) rfl rfl ?_
      refine x_bipush 14 (xd DX8_wide rfl) rfl rfl ?_
      refine x_icmp_eq 17 19 (xd DX8_wide rfl) rfl (by omega) (by omega) rfl (fun c14 => ?_) (fun c14 => ?_)
      · refine x_aload_n 20 (xd DX8_wide rfl) rfl rfl ?_
        refine x_gr 23 _ LX8_26 (xd DX8_wide rfl) rfl rfl ⟨by decide, by decide⟩ (by decide) rfl rfl ?_
        refine x_gi 26 2 rfl LX8_186 (xd DX8_wide rfl) rfl ⟨Or.inr ⟨rfl, by decide⟩, by decide⟩ rfl ?_
        refine x_istore_n 27 (L' := [(0, _), (1, _), (2, _)]) (xd DX8_wide rfl) (by decide) rfl rfl rfl ?_
        refine x_iload_n 28 (xd DX8_wide rfl) rfl rfl ?_
        refine x_iload_n 29 (xd DX8_wide rfl) rfl rfl ?_
        refine x_icmp_ne 32 35 (xd DX8_wide rfl) rfl (by omega) (by omega) rfl (fun c29 => ?_) (fun c29 => ?_)
        · refine x_aload_n 36 (xd DX8_wide rfl) rfl rfl ?_
          refine x_gr 39 _ LX8_33 (xd DX8_wide rfl) rfl rfl ⟨by decide, by decide⟩ (by decide) rfl rfl ?_
          refine x_aload_n 40 (xd DX8_wide rfl) rfl rfl ?_
          refine x_gr 43 _ LX8_26 (xd DX8_wide rfl) rfl rfl ⟨by decide, by decide⟩ (by decide) rfl rfl ?_
          refine x_Vv 46 (pX2_keep hH hS) FX2_keep VX2_keep CX8_137 (xd DX8_wide rfl) rfl rfl rfl ⟨by decide, rfl⟩ ⟨by decide, by decide⟩ (by decide) (Nat.le_of_ble_eq_true rfl) (by decide) rfl ?_
          rintro h1 ⟨o1, k1⟩
          have l1 : ∀ x, x < 34 → h1 x = h x := fun x q => o1 x (by unfold SHi; omega)
          have HW1 : HW h1 := KeptR.hw hH hS k1
          have SW1 : SW h1 8 := hS.same (fun x q => l1 x (by unfold S26 at q; omega))
          have PW1 : PW h1 := hP.off o1 (by unfold SHi; omega) (by unfold SHi; omega) (by unfold SHi; omega) (by unfold SHi; omega)
          have e8 := l1 8 (by omega)
          have e4 := l1 4 (by omega)
          have KR1 : KeptR h h1 := k1
          have SW2 : SW (hset h1 8 2 w) 8 := by
            refine ⟨?_, ?_, ?_, fun e q => ?_⟩
            · rw [hset_i (by decide)]; exact SW1.1
            · rw [hset_s]; omega
            · rw [hset_i (by decide)]; exact SW1.2.2.1
            · rw [hset_i (by decide)] at q
              exact (SW1.2.2.2 e q).off (ocell (c := 8)) (by omega) (by omega) (by omega)
          have PW2 : PW (hset h1 8 2 w) := PW1.off (ocell (c := 8)) (by decide) (by decide) (by decide) (by decide)
          have HW2 : HW (hset h1 8 2 w) := HW1.same (fun x q r => hset_c (by omega))
          refine x_aload_n 47 (xd DX8_wide rfl) rfl rfl ?_
          refine x_gr 50 _ LX8_26 (xd DX8_wide rfl) rfl rfl ⟨by decide, by decide⟩ (by decide) rfl rfl ?_
          refine x_iload_n 51 (xd DX8_wide rfl) rfl rfl ?_
          refine x_pi 54 2 rfl LX8_186 (xd DX8_wide rfl) rfl rfl ⟨Or.inr ⟨rfl, by decide⟩, by decide⟩ rfl ?_
          refine x_aload_n 55 (xd DX8_wide rfl) rfl rfl ?_
          refine x_Vv 58 (pX8_settle PW2 SW2) FX8_settle VX8_settle CX8_103 (xd DX8_wide rfl) rfl rfl rfl ⟨by decide, rfl⟩ ⟨by decide, by decide⟩ (by decide) (Nat.le_of_ble_eq_true rfl) (by decide) rfl ?_
          rintro h3 ⟨o3, l3, f3⟩
          refine x_iload_n 59 (xd DX8_wide rfl) rfl rfl ?_
          refine x_ri (xd DX8_wide rfl) rfl ?_
          obtain ⟨g1, g2, g3⟩ := Cgd.mk1 hC ((o1.mono (fun x q => by unfold SHi at q; unfold SCh; omega)).tr (Off.set (c := 8) (k := 2) (z := w) (by unfold SCh; omega))) HW2 SW2 o3 l3 f3
          have o4 : Off (fun x => ¬ (34 ≤ x ∧ x < 192)) h1 h3 := fun x q => by
            have q := Classical.not_not.mp q
            rw [g3 x q.1 q.2]; exact hset_c (by omega)
          have g4 := SetR.mk1 (by decide) l1 hS g2
          rw [hset_s, hset_i (by decide), e8] at g4
          exact ⟨fun q => absurd q (by omega), fun _ q => absurd q (by omega), fun _ _ => ⟨g1, KR1.off hH hS o4 (fun x a b q => q ⟨a, b⟩), rfl, g4⟩⟩
        · refine x_bipush 34 (xd DX8_wide rfl) rfl rfl ?_
          refine x_ri (xd DX8_wide rfl) rfl ?_
          exact ⟨fun q => absurd q (by omega), fun _ _ => ⟨rfl, rfl⟩, fun _ q => absurd q (by omega)⟩
      · refine x_iconst 18 (xd DX8_wide rfl) rfl ?_
        refine x_ri (xd DX8_wide rfl) rfl ?_
        exact ⟨fun _ => ⟨rfl, rfl⟩, fun q => absurd q (by omega), fun q => absurd q (by omega)⟩

set_option maxRecDepth 100000 in
set_option maxHeartbeats 4000000 in
theorem pX8_hold {K : XK} {n : Nat} {h : XH} (c : Int) (hC : CI h) (hi : xrg c) : MI K mX8_hold 6 n [vr 0, vi c] h (fun zr h' => (¬ (1 ≤ c ∧ c ≤ 4) → zr = -1 ∧ h' = h) ∧ ((1 ≤ c ∧ c ≤ 4) → c = h 8 3 → zr = -2 ∧ h' = h) ∧ ((1 ≤ c ∧ c ≤ 4) → c ≠ h 8 3 → Cgd h h' ∧ KeptR h h' ∧ zr = h 8 3 ∧ SetR h h' (h 8 2) c)) := by
  refine xMeth FX8_hold (Nat.le_of_ble_eq_true rfl) ?_
  have hP := hC.1
  have hS := hC.2.1
  have hH := hC.2.2.1
  have hL := hC.2.2.2.1
  have hP1 := hP.1
  have hS1 := hS.1
  have hS2 := hS.2.1
  have hS3 := hS.2.2.1
  refine x_iload_n 1 (xd DX8_hold rfl) rfl rfl ?_
  refine x_iconst 2 (xd DX8_hold rfl) rfl ?_
  refine x_icmp_lt 5 10 (xd DX8_hold rfl) rfl (by omega) (by omega) rfl (fun c2 => ?_) (fun c2 => ?_)
  · refine x_iconst 11 (xd DX8_hold rfl) rfl ?_
    refine x_ri (xd DX8_hold rfl) rfl ?_
    exact ⟨fun _ => ⟨rfl, rfl⟩, fun q => absurd q (by omega), fun q => absurd q (by omega)⟩
  · refine x_iload_n 6 (xd DX8_hold rfl) rfl rfl ?_
    refine x_iconst 7 (xd DX8_hold rfl) rfl ?_
    refine x_icmp_le 10 12 (xd DX8_hold rfl) rfl (by omega) (by omega) rfl (fun c7 => ?_) (fun c7 => ?_)
    · refine x_aload_n 13 (xd DX8_hold rfl) rfl rfl ?_
      refine x_gr 16 _ LX8_26 (xd DX8_hold rfl) rfl rfl ⟨by decide, by decide⟩ (by decide) rfl rfl ?_
      refine x_gi 19 3 rfl LX8_189 (xd DX8_hold rfl) rfl ⟨Or.inr ⟨rfl, by decide⟩, by decide⟩ rfl ?_
      refine x_istore_n 20 (L' := [(0, _), (1, _), (2, _)]) (xd DX8_hold rfl) (by decide) rfl rfl rfl ?_
      refine x_iload_n 21 (xd DX8_hold rfl) rfl rfl ?_
      refine x_iload_n 22 (xd DX8_hold rfl) rfl rfl ?_
      refine x_icmp_ne 25 28 (xd DX8_hold rfl) rfl (by omega) (by omega) rfl (fun c22 => ?_) (fun c22 => ?_)
      · refine x_aload_n 29 (xd DX8_hold rfl) rfl rfl ?_
        refine x_gr 32 _ LX8_33 (xd DX8_hold rfl) rfl rfl ⟨by decide, by decide⟩ (by decide) rfl rfl ?_
        refine x_aload_n 33 (xd DX8_hold rfl) rfl rfl ?_
        refine x_gr 36 _ LX8_26 (xd DX8_hold rfl) rfl rfl ⟨by decide, by decide⟩ (by decide) rfl rfl ?_
        refine x_Vv 39 (pX2_keep hH hS) FX2_keep VX2_keep CX8_137 (xd DX8_hold rfl) rfl rfl rfl ⟨by decide, rfl⟩ ⟨by decide, by decide⟩ (by decide) (Nat.le_of_ble_eq_true rfl) (by decide) rfl ?_
        rintro h1 ⟨o1, k1⟩
        have l1 : ∀ x, x < 34 → h1 x = h x := fun x q => o1 x (by unfold SHi; omega)
        have HW1 : HW h1 := KeptR.hw hH hS k1
        have SW1 : SW h1 8 := hS.same (fun x q => l1 x (by unfold S26 at q; omega))
        have PW1 : PW h1 := hP.off o1 (by unfold SHi; omega) (by unfold SHi; omega) (by unfold SHi; omega) (by unfold SHi; omega)
        have e8 := l1 8 (by omega)
        have e4 := l1 4 (by omega)
        have KR1 : KeptR h h1 := k1
        have SW2 : SW (hset h1 8 3 c) 8 := by
          refine ⟨?_, ?_, ?_, fun e q => ?_⟩
          · rw [hset_i (by decide)]; exact SW1.1
          · rw [hset_i (by decide)]; exact SW1.2.1
          · rw [hset_s]; omega
          · rw [hset_i (by decide)] at q
            exact (SW1.2.2.2 e q).off (ocell (c := 8)) (by omega) (by omega) (by omega)
        have PW2 : PW (hset h1 8 3 c) := PW1.off (ocell (c := 8)) (by decide) (by decide) (by decide) (by decide)
        have HW2 : HW (hset h1 8 3 c) := HW1.same (fun x q r => hset_c (by omega))
        refine x_aload_n 40 (xd DX8_hold rfl) rfl rfl ?_
        refine x_gr 43 _ LX8_26 (xd DX8_hold rfl) rfl rfl ⟨by decide, by decide⟩ (by decide) rfl rfl ?_
        refine x_iload_n 44 (xd DX8_hold rfl) rfl rfl ?_
        refine x_pi 47 3 rfl LX8_189 (xd DX8_hold rfl) rfl rfl ⟨Or.inr ⟨rfl, by decide⟩, by decide⟩ rfl ?_
        refine x_aload_n 48 (xd DX8_hold rfl) rfl rfl ?_
        refine x_Vv 51 (pX8_settle PW2 SW2) FX8_settle VX8_settle CX8_103 (xd DX8_hold rfl) rfl rfl rfl ⟨by decide, rfl⟩ ⟨by decide, by decide⟩ (by decide) (Nat.le_of_ble_eq_true rfl) (by decide) rfl ?_
        rintro h3 ⟨o3, l3, f3⟩
        refine x_iload_n 52 (xd DX8_hold rfl) rfl rfl ?_
        refine x_ri (xd DX8_hold rfl) rfl ?_
        obtain ⟨g1, g2, g3⟩ := Cgd.mk1 hC ((o1.mono (fun x q => by unfold SHi at q; unfold SCh; omega)).tr (Off.set (c := 8) (k := 3) (z := c) (by unfold SCh; omega))) HW2 SW2 o3 l3 f3
        have o4 : Off (fun x => ¬ (34 ≤ x ∧ x < 192)) h1 h3 := fun x q => by
          have q := Classical.not_not.mp q
          rw [g3 x q.1 q.2]; exact hset_c (by omega)
        have g4 := SetR.mk1 (by decide) l1 hS g2
        rw [hset_s, hset_i (by decide), e8] at g4
        exact ⟨fun q => absurd q (by omega), fun _ q => absurd q (by omega), fun _ _ => ⟨g1, KR1.off hH hS o4 (fun x a b q => q ⟨a, b⟩), rfl, g4⟩⟩
      · refine x_bipush 27 (xd DX8_hold rfl) rfl rfl ?_
        refine x_ri (xd DX8_hold rfl) rfl ?_
        exact ⟨fun q => absurd q (by omega), fun _ _ => ⟨rfl, rfl⟩, fun _ q => absurd q (by omega)⟩
    · refine x_iconst 11 (xd DX8_hold rfl) rfl ?_
      refine x_ri (xd DX8_hold rfl) rfl ?_
      exact ⟨fun _ => ⟨rfl, rfl⟩, fun q => absurd q (by omega), fun q => absurd q (by omega)⟩

def UndR (h h' : XH) : Prop := h' 34 1 = h 34 1 - 1 ∧ SEq h' 8 h (36 + 26 * (h 34 1 - 1).toNat) ∧ ∀ x, 36 ≤ x → x < 192 → h' x = h x
set_option maxRecDepth 100000 in
set_option maxHeartbeats 4000000 in
theorem pX8_undo {K : XK} {n : Nat} {h : XH} (hC : CI h) : MI K mX8_undo 6 n [vr 0] h (fun zr h' => (h 34 1 = 0 → zr = -2 ∧ h' = h) ∧ (h 34 1 ≠ 0 → Cgd h h' ∧ zr = h 34 1 - 1 ∧ UndR h h')) := by
  refine xMeth FX8_undo (Nat.le_of_ble_eq_true rfl) ?_
  have hP := hC.1
  have hS := hC.2.1
  have hH := hC.2.2.1
  have hL := hC.2.2.2.1
  have hP1 := hP.1
  have hS1 := hS.1
  have hS2 := hS.2.1
  have hS3 := hS.2.2.1
  have hH1 := hH.1
  refine x_aload_n 1 (xd DX8_undo rfl) rfl rfl ?_
  refine x_gr 4 _ LX8_33 (xd DX8_undo rfl) rfl rfl ⟨by decide, by decide⟩ (by decide) rfl rfl ?_
  refine x_gi 7 1 rfl LX8_100 (xd DX8_undo rfl) rfl ⟨Or.inr ⟨rfl, by decide⟩, by decide⟩ rfl ?_
  refine x_if_ne 10 13 (xd DX8_undo rfl) rfl (by omega) rfl (fun c7 => ?_) (fun c7 => ?_)
  · refine x_aload_n 14 (xd DX8_undo rfl) rfl rfl ?_
    refine x_gr 17 _ LX8_33 (xd DX8_undo rfl) rfl rfl ⟨by decide, by decide⟩ (by decide) rfl rfl ?_
    refine x_aload_n 18 (xd DX8_undo rfl) rfl rfl ?_
    refine x_gr 21 _ LX8_26 (xd DX8_undo rfl) rfl rfl ⟨by decide, by decide⟩ (by decide) rfl rfl ?_
    refine x_Vv 24 (pX2_giveBack hH (by omega)) FX2_giveBack VX2_giveBack CX8_192 (xd DX8_undo rfl) rfl rfl rfl ⟨by decide, rfl⟩ ⟨by decide, by decide⟩ (by decide) (Nat.le_of_ble_eq_true rfl) (by decide) rfl ?_
    rintro h1 ⟨o1, d1, s1⟩
    have SW1 : SW h1 8 := s1.sw (hH.2 (h 34 1 - 1).toNat (by omega))
    have PW1 : PW h1 := hP.off o1 (by unfold SGb; omega) (by unfold SGb; omega) (by unfold SGb; omega) (by unfold SGb; omega)
    have HW1 : HW h1 := ⟨by rw [d1]; omega, fun k q => (hH.2 k (by omega)).same (fun x z => o1 x (by unfold S26 at z; unfold SGb; omega))⟩
    refine x_aload_n 25 (xd DX8_undo rfl) rfl rfl ?_
    refine x_Vv 28 (pX8_settle PW1 SW1) FX8_settle VX8_settle CX8_103 (xd DX8_undo rfl) rfl rfl rfl ⟨by decide, rfl⟩ ⟨by decide, by decide⟩ (by decide) (Nat.le_of_ble_eq_true rfl) (by decide) rfl ?_
    rintro h3 ⟨o3, l3, f3⟩
    refine x_aload_n 29 (xd DX8_undo rfl) rfl rfl ?_
    refine x_gr 32 _ LX8_33 (xd DX8_undo rfl) rfl rfl ⟨by decide, by decide⟩ (by decide) rfl rfl ?_
    refine x_gi 35 1 rfl LX8_100 (xd DX8_undo rfl) rfl ⟨Or.inr ⟨rfl, by decide⟩, by decide⟩ rfl ?_
    refine x_ri (xd DX8_undo rfl) rfl ?_
    obtain ⟨g1, g2, g3⟩ := Cgd.mk1 hC (o1.mono (fun x q => by unfold SGb at q; unfold SCh; omega)) HW1 SW1 o3 l3 f3
    have e34 := g3 34 (by omega) (by omega)
    refine ⟨fun q => absurd q (by omega), fun _ => ⟨g1, by rw [e34]; exact d1, by rw [e34]; exact d1, g2.tr s1, fun x a b => ?_⟩⟩
    rw [g3 x (by omega) b]
    exact o1 x (by unfold SGb; omega)
  · refine x_bipush 12 (xd DX8_undo rfl) rfl rfl ?_
    refine x_ri (xd DX8_undo rfl) rfl ?_
    exact ⟨fun _ => ⟨rfl, rfl⟩, fun q => absurd q (by omega)⟩
end
section
/-! SqueezedCode: gain; a gain is one number -/
theorem Mt_took {h xa xb : XH} {i m z : Int} (oa : Off STr h xa) (ob : Off STr h xb) (ta : Took xa 246 h i m z) (tb : Took xb 246 h i m z) (j : Int) : Mt xa 246 j ↔ Mt xb 246 j := by
  have key : ∀ ya yb : XH, Off STr h ya → Off STr h yb → Took ya 246 h i m z → Took yb 246 h i m z → Mt ya 246 j → Mt yb 246 j := by
    intro ya yb oa ob ta tb q
    obtain ⟨q1, q2, q3, q4⟩ := q
    rw [ta.1, oa 193 (by unfold STr SGa S3; omega)] at q1
    rw [ta.1, oa 4 (by unfold STr SGa S3; omega)] at q3
    refine ⟨by rw [tb.1, ob 193 (by unfold STr SGa S3; omega)]; exact q1, q2, by rw [tb.1, ob 4 (by unfold STr SGa S3; omega)]; exact q3, fun x a b => ?_⟩
    rw [tb.1] at b
    have w1 := q4 x a (by rw [ta.1]; exact b)
    have a1 := ta.2.2 x a b
    have b1 := tb.2.2 x a b
    rw [oa 5 (by unfold STr SGa S3; omega), oa 6 (by unfold STr SGa S3; omega), a1.1, a1.2, ta.2.1] at w1
    rw [ob 5 (by unfold STr SGa S3; omega), ob 6 (by unfold STr SGa S3; omega), b1.1, b1.2, tb.2.1]
    exact w1
  exact ⟨key xa xb oa ob ta tb, key xb xa ob oa tb ta⟩
theorem trp_tb {h : XH} {t t' : Int → Int} {i B : Int} (hf : ∀ j, i < j → j ≤ B → t j = t' j) : ∀ d : Nat, i + 1 + d ≤ B → trp h t i d = trp h t' i d
  | 0, q => by unfold trp; rw [hf (i + 1) (by omega) (by omega)]
  | d + 1, q => by unfold trp; rw [trp_tb hf d (by omega), hf (i + ((d : Int) + 2)) (by omega) (by omega)]
theorem trp_offS {h xg : XH} (hO : Off STr h xg) {i : Int} (hi : i < 48) {t : Int → Int} (d : Nat) : trp xg t i d = trp h t i d :=
  trp_off hO (by unfold STr SGa S3; omega) (by unfold STr SGa S3; omega) d
theorem gain_one {h : XH} {i m z g g' : Int} (hP : PW h) (hL : LY h) (hm : 1 ≤ m) (ha : GainIs h i m z g) (hb : GainIs h i m z g') : g = g' := by
  obtain ⟨xa, oa, ta, ra, ea⟩ := ha
  obtain ⟨xb, ob, tb, rb, eb⟩ := hb
  have hP1 := hP.1
  have a4 := oa 4 (by unfold STr SGa S3; omega)
  have b4 := ob 4 (by unfold STr SGa S3; omega)
  have a193 := oa 193 (by unfold STr SGa S3; omega)
  have b193 := ob 193 (by unfold STr SGa S3; omega)
  obtain ⟨ra0, ra⟩ := ra
  obtain ⟨rb0, rb⟩ := rb
  rw [a4] at ra0 ra
  rw [b4] at rb0 rb
  have key : ∀ (d : Nat) (j : Int), 0 ≤ j → j ≤ h 4 3 → h 4 3 - j ≤ d → xa 245 j = xb 245 j := by
    intro d
    induction d with
    | zero => intro j a b c; rw [show j = h 4 3 by omega, ra0, rb0]
    | succ d ih =>
      intro j a b c
      by_cases q : j = h 4 3
      · rw [q, ra0, rb0]
      · have hf : ∀ x, j < x → x ≤ h 4 3 → xa 245 x = xb 245 x := fun x u v => ih x (by omega) v (by omega)
        have hr := hL.hr j a (by omega)
        have hrl := hL.hrl j a (by omega)
        rw [ra j a (by omega), rb j a (by omega)]
        unfold trF
        rw [a193, b193, trp_offS oa (by omega), trp_offS ob (by omega), trp_tb (B := h 4 3) hf (h 193 j - 1).toNat (by omega), ta.1, tb.1, ta.2.1, tb.2.1, show Mt xa 246 j = Mt xb 246 j from propext (Mt_took oa ob ta tb j)]
        by_cases w : Mt xb 246 j
        · rw [pik_t w, pik_t w, hf (j + m) (by omega) (by have := w.2.2.1; rw [tb.1, b4] at this; omega)]
        · rw [pik_f w, pik_f w]
  rw [ea, eb, key (h 4 3).toNat 0 (by omega) (by omega) (by omega)]
/-- the gain of a sequence, or less than any -/
noncomputable def GfC (h : XH) (i m z : Int) : Int := pik (∃ g, GainIs h i m z g) (Classical.epsilon (fun g => GainIs h i m z g)) (-9)
theorem GfC_one {h : XH} {i m z g : Int} (hP : PW h) (hL : LY h) (hm : 1 ≤ m) (ha : GainIs h i m z g) : g = GfC h i m z := by
  unfold GfC
  rw [pik_t ⟨g, ha⟩]
  exact gain_one hP hL hm ha (Classical.epsilon_spec (p := fun g => GainIs h i m z g) ⟨g, ha⟩)
/-- the class's picture is kept by what is but scratch -/
theorem CI.scr {S : Nat → Prop} {h xg : XH} (hC : CI h) (hO : Off S h xg) (hs : ∀ c, S c → (245 ≤ c ∧ c ≤ 248) ∨ c = 254) : CI xg := by
  have hn : ∀ c, ¬ ((245 ≤ c ∧ c ≤ 248) ∨ c = 254) → xg c = h c := fun c q => hO c (fun y => q (hs c y))
  have e255 := hn 255 (by omega)
  have e1 := hn 1 (by omega)
  have e4 := hn 4 (by omega)
  refine ⟨hC.1.off hO (fun y => by have := hs _ y; omega) (fun y => by have := hs _ y; omega) (fun y => by have := hs _ y; omega) (fun y => by have := hs _ y; omega), hC.2.1.same (fun x z => hn x (by unfold S26 at z; omega)), hC.2.2.1.same (fun x a b => hn x (by omega)), hC.2.2.2.1.off hO (fun c q y => by have := hs _ y; omega) hC.1 hC.2.1, by rw [e255]; exact hC.2.2.2.2.1, fun q => ?_, by rw [e1]; exact hC.2.2.2.2.2.2.1, by rw [e1, hn 2 (by omega)]; exact hC.2.2.2.2.2.2.2⟩
  have r := hC.2.2.2.2.2.1 (by rw [← e255]; exact q)
  unfold RW at r ⊢
  rw [e255, e4, hn 256 (by omega), hn 258 (by omega)]
  exact r
set_option maxRecDepth 100000 in
set_option maxHeartbeats 4000000 in
theorem pX8_gain {K : XK} {n : Nat} {h : XH} (i m z : Int) (hC : CI h) (hi : xrg i) (hm : xrg m) (hz : xrg z) : MI K mX8_gain 6 n [vr 0, vi i, vi m, vi z] h (fun zr h' => (hindC h i m z ≠ 0 → zr = hindC h i m z ∧ h' = h) ∧ (hindC h i m z = 0 → Off STr h h' ∧ CI h' ∧ zr = GfC h i m z + 100000)) := by
  refine xMeth FX8_gain (Nat.le_of_ble_eq_true rfl) ?_
  have hP := hC.1
  have hS := hC.2.1
  have hH := hC.2.2.1
  have hL := hC.2.2.2.1
  have hP1 := hP.1
  have hS1 := hS.1
  have hS2 := hS.2.1
  have hS3 := hS.2.2.1
  have hind := hindC_rg h i m z
  refine x_aload_n 1 (xd DX8_gain rfl) rfl rfl ?_
  refine x_iload_n 2 (xd DX8_gain rfl) rfl rfl ?_
  refine x_iload_n 3 (xd DX8_gain rfl) rfl rfl ?_
  refine x_iload_n 4 (xd DX8_gain rfl) rfl rfl ?_
  refine x_Vi 7 (pX8_hindranceTo i m z hP hS hL hi hm hz) FX8_hindranceTo VX8_hindranceTo CX8_133 (xd DX8_gain rfl) rfl rfl rfl ⟨by decide, rfl⟩ ⟨by decide, by decide⟩ (by decide) (Nat.le_of_ble_eq_true rfl) (by decide) rfl ?_
  rintro z9 h9 ⟨q1, q2⟩
  rw [q1, q2]
  clear q1 q2 z9 h9
  refine x_istore 9 (L' := [(0, _), (1, _), (2, _), (3, _), (4, _)]) (xd DX8_gain rfl) (by decide) rfl rfl rfl ?_
  refine x_iload 11 (xd DX8_gain rfl) rfl rfl ?_
  refine x_if_eq 14 17 (xd DX8_gain rfl) rfl (by omega) rfl (fun c11 => ?_) (fun c11 => ?_)
  · obtain ⟨f1, f2, f3'⟩ := hindC_0 c11
    have sq := f2.1.ok hL f1.2.2.1
    refine x_aload_n 18 (xd DX8_gain rfl) rfl rfl ?_
    refine x_gr 21 _ LX8_42 (xd DX8_gain rfl) rfl rfl ⟨by decide, by decide⟩ (by decide) rfl rfl ?_
    refine x_iload_n 22 (xd DX8_gain rfl) rfl rfl ?_
    refine x_iload_n 23 (xd DX8_gain rfl) rfl rfl ?_
    refine x_iload_n 24 (xd DX8_gain rfl) rfl rfl ?_
    refine x_Vi 27 (pX3_gainOf i m z hP hL sq ⟨by omega, by omega⟩) FX3_gainOf VX3_gainOf CX8_149 (xd DX8_gain rfl) rfl rfl rfl ⟨by decide, rfl⟩ ⟨by decide, by decide⟩ (by decide) (Nat.le_of_ble_eq_true rfl) (by decide) rfl ?_
    rintro zg h1 ⟨o1, t1, r1, g1, -⟩
    refine x_ldc 29 (xd DX8_gain rfl) KX8_152 rfl ?_
    refine x_iadd 30 (xd DX8_gain rfl) rfl ?_
    refine x_ri (xd DX8_gain rfl) rfl ?_
    have o2 : Off STr h h1 := o1.mono (fun x q => Or.inr q)
    refine ⟨fun q => absurd c11 q, fun _ => ⟨o2, hC.scr o2 (fun c q => by unfold STr SGa S3 at q; omega), ?_⟩⟩
    rw [GfC_one hP hL (by omega) ⟨h1, o2, t1, r1, g1⟩]
  · refine x_iload 16 (xd DX8_gain rfl) rfl rfl ?_
    refine x_ri (xd DX8_gain rfl) rfl ?_
    exact ⟨fun _ => ⟨rfl, rfl⟩, fun q => absurd q c11⟩
end
section
/-! the most that an entry can gain -/
theorem bst_v {h : XH} {fw : Int → Int} {i : Int} : ∀ e : Nat, ((bst h fw i e).2 < 0 → (bst h fw i e).1 = kOwn (h 5 i) + fw (i + 1)) ∧ (0 ≤ (bst h fw i e).2 → (bst h fw i e).1 = kRef (h (10 + 3 * (bst h fw i e).2.toNat) 3) + fw (i + h (10 + 3 * (bst h fw i e).2.toNat) 2))
  | 0 => ⟨fun _ => rfl, fun q => absurd (show (0 : Int) ≤ -4 from q) (by decide)⟩
  | e + 1 => by
    have ih := bst_v (h := h) (fw := fw) (i := i) e
    unfold bst
    by_cases q : Mt h (10 + 3 * e) i ∧ kRef (h (10 + 3 * e) 3) + fw (i + h (10 + 3 * e) 2) < (bst h fw i e).1
    · rw [pik_t q]
      refine ⟨fun z => absurd (show (e : Int) < 0 from z) (by omega), fun _ => ?_⟩
      rfl
    · rw [pik_f q]; exact ih
theorem bst_own {h : XH} {fw : Int → Int} {i : Int} : ∀ e : Nat, (bst h fw i e).1 ≤ kOwn (h 5 i) + fw (i + 1)
  | 0 => Int.le_refl _
  | e + 1 => by
    have ih := bst_own (h := h) (fw := fw) (i := i) e
    unfold bst
    by_cases q : Mt h (10 + 3 * e) i ∧ kRef (h (10 + 3 * e) 3) + fw (i + h (10 + 3 * e) 2) < (bst h fw i e).1
    · rw [pik_t q]; exact Int.le_trans (Int.le_of_lt q.2) ih
    · rw [pik_f q]; exact ih
theorem bst_ref {h : XH} {fw : Int → Int} {i : Int} {x : Nat} (hx : Mt h (10 + 3 * x) i) : ∀ e : Nat, x < e → (bst h fw i e).1 ≤ kRef (h (10 + 3 * x) 3) + fw (i + h (10 + 3 * x) 2)
  | 0, q => absurd q (by omega)
  | e + 1, q => by
    unfold bst
    by_cases q1 : Mt h (10 + 3 * e) i ∧ kRef (h (10 + 3 * e) 3) + fw (i + h (10 + 3 * e) 2) < (bst h fw i e).1
    · rw [pik_t q1]
      by_cases q2 : x = e
      · subst q2; exact Int.le_refl _
      · exact Int.le_trans (Int.le_of_lt q1.2) (bst_ref hx e (by omega))
    · rw [pik_f q1]
      by_cases q2 : x = e
      · subst q2; exact Int.not_lt.mp (fun z => q1 ⟨hx, z⟩)
      · exact bst_ref hx e (by omega)
theorem shr_ex {h : XH} {i p : Int} : ∀ e : Nat, 0 < shr h i p e → ∃ x : Nat, x < e ∧ Mt h (10 + 3 * x) i ∧ h (10 + 3 * x) 2 = p ∧ kRef (h (10 + 3 * x) 3) = shr h i p e
  | 0, q => by unfold shr at q; omega
  | e + 1, q => by
    unfold shr at q ⊢
    by_cases q1 : Mt h (10 + 3 * e) i ∧ h (10 + 3 * e) 2 = p ∧ (shr h i p e = 0 ∨ kRef (h (10 + 3 * e) 3) < shr h i p e)
    · rw [pik_t q1]; exact ⟨e, by omega, q1.1, q1.2.1, rfl⟩
    · rw [pik_f q1] at q ⊢
      obtain ⟨x, a, b⟩ := shr_ex e q
      exact ⟨x, by omega, b⟩
/-- the length is the fewest from the first instruction on -/
theorem len_few {h : XH} (hP : PW h) (hS : SW h 8) (hL : LY h) : h 192 13 = h 243 0 := by
  obtain ⟨-, -, hr, hN, hF, -, h13, -⟩ := hL
  have hP1 := hP.1
  have key : ∀ i : Nat, (i : Int) ≤ h 4 3 → 0 ≤ (csN h i).2.2.1 ∧ (i : Int) + (csN h i).2.2.1 ≤ h 4 3 ∧ h 243 0 = (csN h i).2.2.2 + h 243 ((i : Int) + (csN h i).2.2.1) := by
    intro i
    induction i with
    | zero => intro _; exact ⟨Int.le_refl _, by show (0 : Int) + 0 ≤ _; omega, by show _ = 0 + h 243 (0 + 0); rw [Int.zero_add]; rfl⟩
    | succ i ih =>
      intro q
      obtain ⟨a, b, c⟩ := ih (by omega)
      have f1 := (hF i (by omega) (by omega)).1
      have f2 := (hF i (by omega) (by omega)).2.1
      have bv := bst_v (h := h) (fw := h 243) (i := (i : Int)) (h 8 1).toNat
      rw [← f1, ← f2] at bv
      rw [csN_s]
      by_cases q1 : (csN h i).2.2.1 = 0
      · rw [if_pos q1]
        rw [q1, Int.add_zero] at c
        by_cases q2 : h 244 i < 0
        · rw [if_pos q2]
          have v := bv.1 q2
          refine ⟨Int.le_refl _, by show ((i + 1 : Nat) : Int) + 0 ≤ _; omega, ?_⟩
          show h 243 0 = (csN h i).2.2.2 + kOwn (h 5 i) + h 243 (((i + 1 : Nat) : Int) + 0)
          rw [show ((i + 1 : Nat) : Int) + 0 = (i : Int) + 1 by omega]
          omega
        · rw [if_neg q2]
          have v := bv.2 (by omega)
          have mt := bst_Mt (h := h) (fw := h 243) (i := (i : Int)) (h 8 1).toNat (by rw [← f2]; omega)
          rw [← f2] at mt
          have m1 := mt.2.2.1
          have pk := bst_pk (h := h) (fw := h 243) (i := (i : Int)) (h 8 1).toNat
          rw [← f2] at pk
          have w1 := (hS.ew (e := (h 244 i).toNat) (by omega)).1
          refine ⟨by show 0 ≤ h (10 + 3 * (h 244 i).toNat) 2 - 1; omega, by show ((i + 1 : Nat) : Int) + (h (10 + 3 * (h 244 i).toNat) 2 - 1) ≤ _; omega, ?_⟩
          show h 243 0 = (csN h i).2.2.2 + kRef (h (10 + 3 * (h 244 i).toNat) 3) + h 243 (((i + 1 : Nat) : Int) + (h (10 + 3 * (h 244 i).toNat) 2 - 1))
          rw [show ((i + 1 : Nat) : Int) + (h (10 + 3 * (h 244 i).toNat) 2 - 1) = (i : Int) + h (10 + 3 * (h 244 i).toNat) 2 by omega]
          omega
      · rw [if_neg q1]
        refine ⟨by show 0 ≤ (csN h i).2.2.1 - 1; omega, by show ((i + 1 : Nat) : Int) + ((csN h i).2.2.1 - 1) ≤ _; omega, ?_⟩
        show h 243 0 = (csN h i).2.2.2 + h 243 (((i + 1 : Nat) : Int) + ((csN h i).2.2.1 - 1))
        rw [show ((i + 1 : Nat) : Int) + ((csN h i).2.2.1 - 1) = (i : Int) + (csN h i).2.2.1 by omega]
        exact c
  obtain ⟨a, b, c⟩ := key (h 4 3).toNat (by omega)
  rw [h13]
  rw [show ((h 4 3).toNat : Int) + (csN h (h 4 3).toNat).2.2.1 = h 4 3 by omega, hN] at c
  omega
theorem cntR_s (p : Nat → Prop) (a d : Nat) : cntR p a (d + 1) = cntR p a d + xp (p (a + d)) := rfl
theorem most_ge {h : XH} {i m z g g' : Int} (hP : PW h) (hS : SW h 8) (hL : LY h) (hq : SqOk h i m) (ha : GainIs h i m z g) (hb : MostIs h i m z g') : g ≤ g' := by
  obtain ⟨xa, oa, ta, ra, ea⟩ := ha
  obtain ⟨xb, ob, tb, eb⟩ := hb
  have hP1 := hP.1
  have a4 := oa 4 (by unfold STr SGa S3; omega)
  have a193 := oa 193 (by unfold STr SGa S3; omega)
  have a5 := oa 5 (by unfold STr SGa S3; omega)
  have len := len_few hP hS hL
  have hF := hL.2.2.2.2.1
  have hN := hL.2.2.2.1
  obtain ⟨ra0, ra⟩ := ra
  rw [a4] at ra0 ra
  have hm := hq.2.1
  have k3 := kRef_rg (xb 246 3)
  have own : ∀ j, 0 ≤ j → j < h 4 3 → h 243 j ≤ kOwn (h 5 j) + h 243 (j + 1) := fun j a b => by
    rw [(hF j a b).1]; exact bst_own _
  have hD : ∀ a b : Nat, a ≤ b → (2 * m - kRef (xb 246 3)) * cntR (fun j => Mt xb 246 j) 0 a ≤ (2 * m - kRef (xb 246 3)) * cntR (fun j => Mt xb 246 j) 0 b := by
    intro a b
    induction b with
    | zero => intro q; rw [show a = 0 by omega]; exact Int.le_refl _
    | succ b ih =>
      intro q
      by_cases q1 : a = b + 1
      · rw [q1]; exact Int.le_refl _
      · refine Int.le_trans (ih (by omega)) ?_
        refine Int.mul_le_mul_of_nonneg_left ?_ (by omega)
        rw [cntR_s]
        have := xp01 (Mt xb 246 ((0 + b : Nat) : Int))
        omega
  have sim : ∀ (d : Nat) (j : Int), 0 ≤ j → j + d ≤ h 4 3 → (∀ x, 0 ≤ x → x < (d : Int) → kSim (h 5 (j + x))) → h 243 j ≤ 2 * (d : Int) + h 243 (j + d) := by
    intro d
    induction d with
    | zero => intro j _ _ _; show _ ≤ _ + h 243 (j + 0); rw [Int.add_zero]; show _ ≤ 2 * 0 + _; omega
    | succ d ih =>
      intro j a b c
      have i1 := ih (j + 1) (by omega) (by omega) (fun x u v => by rw [show j + 1 + x = j + (x + 1) by omega]; exact c (x + 1) (by omega) (by omega))
      have o1 := own j a (by omega)
      have s1 := c 0 (by omega) (by omega)
      rw [Int.add_zero] at s1
      unfold kSim at s1
      unfold kOwn at o1
      rw [if_pos s1] at o1
      rw [show j + 1 + (d : Int) = j + ((d + 1 : Nat) : Int) by omega] at i1
      omega
  have key : ∀ (d : Nat) (j : Nat), (j : Int) ≤ h 4 3 → h 4 3 - j ≤ d → h 243 j - xa 245 j ≤ (2 * m - kRef (xb 246 3)) * cntR (fun j => Mt xb 246 j) 0 (h 4 3).toNat - (2 * m - kRef (xb 246 3)) * cntR (fun j => Mt xb 246 j) 0 j := by
    intro d
    induction d with
    | zero => intro j b c; rw [show (j : Int) = h 4 3 by omega, ra0, hN, show (h 4 3).toNat = j by omega]; omega
    | succ d ih =>
      intro j b c
      by_cases q : (j : Int) = h 4 3
      · rw [q, ra0, hN, show (h 4 3).toNat = j by omega]; omega
      · have hr := hL.hr j (by omega) (by omega)
        have hrl := hL.hrl j (by omega) (by omega)
        have tr : ∀ e : Nat, (j : Int) + 1 + e ≤ h 4 3 → e ≤ 3 → h 243 j - trp h (xa 245) j e ≤ (2 * m - kRef (xb 246 3)) * cntR (fun j => Mt xb 246 j) 0 (h 4 3).toNat - (2 * m - kRef (xb 246 3)) * cntR (fun j => Mt xb 246 j) 0 j := by
          intro e
          induction e with
          | zero =>
            intro u _
            unfold trp
            have o1 := own j (by omega) (by omega)
            have i1 := ih (j + 1) (by omega) (by omega)
            have d1 := hD j (j + 1) (by omega)
            rw [show ((j + 1 : Nat) : Int) = (j : Int) + 1 by omega] at i1
            omega
          | succ e ie =>
            intro u u2
            have i2 := ie (by omega) (by omega)
            unfold trp
            by_cases w : 0 < h (195 + (j : Int).toNat) ((e : Int) + 2)
            · rw [if_pos w]
              have f3 := (hF j (by omega) (by omega)).2.2 ((e : Int) + 2) (by omega) (by omega)
              rw [f3] at w
              obtain ⟨x, x1, x2, x3, x4⟩ := shr_ex _ w
              have r1 := bst_ref (fw := h 243) x2 (h 8 1).toNat x1
              rw [← (hF j (by omega) (by omega)).1, x3, x4, ← f3] at r1
              have i1 := ih (j + (e + 2)) (by omega) (by omega)
              have d1 := hD j (j + (e + 2)) (by omega)
              rw [show ((j + (e + 2) : Nat) : Int) = (j : Int) + ((e : Int) + 2) by omega] at i1
              split <;> omega
            · rw [if_neg w]; exact i2
        have tt := tr (h 193 j - 1).toNat (by omega) (by omega)
        rw [ra j (by omega) (by omega)]
        unfold trF
        rw [a193, trp_offS oa (by omega), ta.1, ta.2.1, show Mt xa 246 j = Mt xb 246 j from propext (Mt_took oa ob ta tb j)]
        by_cases w : Mt xb 246 j
        · rw [pik_t w]
          have w3 := w.2.2.1
          rw [tb.1, ob 4 (by unfold STr SGa S3; omega)] at w3
          have s1 := sim m.toNat j (by omega) (by omega) (fun x u v => by
            have w4 := w.2.2.2 x u (by rw [tb.1]; omega)
            rw [ob 5 (by unfold STr SGa S3; omega)] at w4
            rw [← w4.1, (tb.2.2 x u (by omega)).1]
            exact hq.2.2.2.2 x u (by omega))
          rw [Int.toNat_of_nonneg (by omega)] at s1
          have i1 := ih (j + m.toNat) (by omega) (by omega)
          have d1 := hD (j + 1) (j + m.toNat) (by omega)
          have e1 : (2 * m - kRef (xb 246 3)) * cntR (fun j => Mt xb 246 j) 0 (j + 1) = (2 * m - kRef (xb 246 3)) * cntR (fun j => Mt xb 246 j) 0 j + (2 * m - kRef (xb 246 3)) := by
            rw [cntR_s, xp_1.mpr (by rw [Nat.zero_add]; exact w), Int.mul_add, Int.mul_one]
          rw [show ((j + m.toNat : Nat) : Int) = (j : Int) + m by omega] at i1
          rw [← tb.2.1]
          split <;> omega
        · rw [pik_f w]; exact tt
  have k0 := key (h 4 3).toNat 0 (by omega) (by omega)
  rw [ea, eb, len]
  have c0 : cntR (fun j => Mt xb 246 j) 0 0 = 0 := rfl
  rw [c0, Int.mul_zero] at k0
  have z0 : ((0 : Nat) : Int) = 0 := rfl
  rw [z0] at k0
  omega
theorem GfC_le {h : XH} {i m z g : Int} (hP : PW h) (hS : SW h 8) (hL : LY h) (hq : SqOk h i m) (hb : MostIs h i m z g) : GfC h i m z ≤ g := by
  by_cases q : ∃ g, GainIs h i m z g
  · obtain ⟨g0, q0⟩ := q
    rw [← GfC_one hP hL (by have := hq.2.1; omega) q0]
    exact most_ge hP hS hL hq q0 hb
  · unfold GfC
    rw [pik_f q]
    obtain ⟨xb, ob, tb, eb⟩ := hb
    have k3 := kRef_rg (xb 246 3)
    have k4 := (cntR_rg (fun j => Mt xb 246 j) 0 (h 4 3).toNat).1
    have := Int.mul_nonneg (show 0 ≤ 2 * m - kRef (xb 246 3) by have := hq.2.1; omega) k4
    have := hq.2.2.1
    omega
end
section
/-! SqueezedCode: choose -/
/-- what a search has found is a sequence with a hole in it, or none -/
def FndG (sq : Int → Int → Prop) (r : Int × Int × Int × Int) : Prop := 0 < r.1 → sq r.2.1 r.2.2.1 ∧ (2 ≤ r.2.2.1 ∧ r.2.2.1 ≤ 4) ∧ (-1 ≤ r.2.2.2 ∧ r.2.2.2 < r.2.2.1)
theorem scI_good {sq : Int → Int → Prop} {G : Int → Int → Int → Int} {m z : Int} (hm : 2 ≤ m ∧ m ≤ 4) (hz : -1 ≤ z ∧ z < m) {s : Int × Int × Int × Int} (hs : FndG sq s) : ∀ i : Nat, FndG sq (scI sq G m z i s)
  | 0 => hs
  | i + 1 => by
    have ih := scI_good (G := G) hm hz hs i
    unfold scI
    by_cases q : sq i m ∧ (scI sq G m z i s).1 < G i m z
    · rw [pik_t q]; exact fun _ => ⟨q.1, hm, hz⟩
    · rw [pik_f q]; exact ih
theorem scH_good {sq : Int → Int → Prop} {G : Int → Int → Int → Int} {N : Nat} {m : Int} (hm : 2 ≤ m ∧ m ≤ 4) {s : Int × Int × Int × Int} (hs : FndG sq s) : ∀ d : Nat, (d : Int) ≤ m + 1 → FndG sq (scH sq G N m d s)
  | 0, _ => hs
  | d + 1, q => scI_good hm ⟨by omega, by omega⟩ (scH_good hm hs d (by omega)) N
theorem scM_good {sq : Int → Int → Prop} {G : Int → Int → Int → Int} {N : Nat} {s : Int × Int × Int × Int} (hs : FndG sq s) : ∀ d : Nat, d ≤ 3 → FndG sq (scM sq G N d s)
  | 0, _ => hs
  | d + 1, q => scH_good ⟨by omega, by omega⟩ (scM_good hs d (by omega)) (d + 3) (by omega)
/-- a search's outcome -/
def FndR (h g : XH) (z : Int) : Prop := Off STr h g ∧ ((8 ≤ h 8 1 ∧ z = 0) ∨ (h 8 1 < 8 ∧ z = xp (0 < g 254 5) ∧ F4 g = scM (SqR h) (GfC h) (h 4 3).toNat 3 (0, h 254 2, h 254 3, h 254 4)))
/-- what was found, put into the table, and the layout reckoned again -/
def NxtR (g g3 : XH) : Prop := Off (fun x => ST x ∨ SL x) g g3 ∧ AddR g g3 (g 254 2) (g 254 3) (g 254 4) ∧ LY g3
def ChR : Nat → Int → XH → XH → Prop
  | 0, _, g, g' => g' = g
  | n + 1, z, g, g' => (z = 0 ∧ g' = g) ∨ (z ≠ 0 ∧ ∃ g3 g4 z4, NxtR g g3 ∧ FndR g3 g4 z4 ∧ ChR n z4 g4 g')
theorem ChR.done {z : Int} {g : XH} : ChR 0 z g g := rfl
theorem ChR.none {n : Nat} {g : XH} : ChR (n + 1) 0 g g := Or.inl ⟨rfl, rfl⟩
theorem ChR.next {n : Nat} {g g3 g4 g' : XH} {z z4 : Int} (a : z ≠ 0) (b : NxtR g g3) (c : FndR g3 g4 z4) (d : ChR n z4 g4 g') : ChR (n + 1) z g g' := Or.inr ⟨a, g3, g4, z4, b, c, d⟩
def PicC (g : XH) : Prop := PW g ∧ SW g 8 ∧ HW g ∧ LY g
/-- what the next turn may rest on -/
def RdyC (z : Int) (g : XH) : Prop := (z = 0 ∨ z = 1) ∧ (z ≠ 0 → g 8 1 < 8 ∧ SqR g (g 254 2) (g 254 3) ∧ (2 ≤ g 254 3 ∧ g 254 3 ≤ 4) ∧ (-1 ≤ g 254 4 ∧ g 254 4 < g 254 3))
theorem PicC.scr {S : Nat → Prop} {h xg : XH} (hC : PicC h) (hO : Off S h xg) (hs : ∀ c, S c → (245 ≤ c ∧ c ≤ 248) ∨ 254 ≤ c) : PicC xg := by
  have hn : ∀ c, ¬ ((245 ≤ c ∧ c ≤ 248) ∨ 254 ≤ c) → xg c = h c := fun c q => hO c (fun y => q (hs c y))
  exact ⟨hC.1.off hO (fun y => by have := hs _ y; omega) (fun y => by have := hs _ y; omega) (fun y => by have := hs _ y; omega) (fun y => by have := hs _ y; omega), hC.2.1.same (fun x z => hn x (by unfold S26 at z; omega)), hC.2.2.1.same (fun x a b => hn x (by omega)), hC.2.2.2.off hO (fun c q y => by have := hs _ y; omega) hC.1 hC.2.1⟩
theorem FndR.pic {h g : XH} {z : Int} (hf : FndR h g z) (hp : PicC h) : PicC g := hp.scr hf.1 (fun c q => by unfold STr SGa S3 at q; omega)
theorem FndR.rdy {h g : XH} {z : Int} (hf : FndR h g z) : RdyC z g := by
  obtain ⟨o, q⟩ := hf
  rcases q with ⟨a, b⟩ | ⟨a, b, c⟩
  · exact ⟨Or.inl b, fun q => absurd b q⟩
  · refine ⟨by rw [b]; exact xp01 _, fun q => ?_⟩
    have p5 : 0 < g 254 5 := Classical.byContradiction (fun y => q (by rw [b]; exact xp_0.mpr y))
    have gd := scM_good (sq := SqR h) (G := GfC h) (N := (h 4 3).toNat) (s := (0, h 254 2, h 254 3, h 254 4)) (fun y => absurd (show (0 : Int) < 0 from y) (by decide)) 3 (Nat.le_refl _)
    rw [← c] at gd
    have gd := gd p5
    rw [o 8 (by unfold STr SGa S3; omega), SqR.off o]
    exact ⟨a, gd⟩
theorem KeptR.of {h g0 h' : XH} (hh : ∀ x, x < 192 → g0 x = h x) (hH : HW h) (hS : SW h 8) (hK : KeptR g0 h') : KeptR h h' := by
  obtain ⟨a, b, c⟩ := hK
  have hH1 := hH.1
  have e34 := hh 34 (by omega)
  rw [e34] at a b
  refine ⟨a, fun k q => ?_, c.tr (SEq.same (fun x z => hh x (by unfold S26 at z; omega)) hS.1.2)⟩
  refine (b k q).tr (SEq.same (fun x z => hh x (by unfold S26 at z; split at z <;> split at a <;> omega)) ?_)
  by_cases y : h 34 1 = 6
  · rw [if_pos y]; rw [if_pos y] at a; exact (hH.2 (k + 1) (by omega)).1.2
  · rw [if_neg y]; rw [if_neg y] at a; exact (hH.2 k (by omega)).1.2
theorem RdyC.ok {z : Int} {g : XH} (hr : RdyC z g) (hp : PicC g) (hz : z ≠ 0) : g 8 1 < 8 ∧ SqOk g (g 254 2) (g 254 3) ∧ (-1 ≤ g 254 4 ∧ g 254 4 < g 254 3) := by
  obtain ⟨a, b, c, d⟩ := hr.2 hz
  exact ⟨a, b.ok hp.2.2.2 c.2, d⟩
def SCc (x : Nat) : Prop := (8 ≤ x ∧ x < 34) ∨ (192 ≤ x ∧ x ≤ 254)
set_option maxRecDepth 100000 in
set_option maxHeartbeats 4000000 in
theorem pX8_choose_loop {K : XK} {n : Nat} (c c0 zz : Int) (nn : Nat) (xs : XH) (hc : 1 ≤ c ∧ c ≤ 8) (h0 : xrg c0) (PP : Int → XH → Prop) (hPP : ∀ gk, ChR nn zz xs gk → Off SCc xs gk → PicC gk → PP (gk 8 1 - c0) (hset gk 255 5 0)) : ∀ (m : Nat) (xi : Nat) (xg : XH) (xz : Int), (xi : Int) ≤ c → c - xi < (m : Int) → PicC xg → RdyC xz xg → Off SCc xs xg → (∀ gk, ChR (c.toNat - xi) xz xg gk → ChR nn zz xs gk) → WI K mX8_choose 7 n (qI n PP) 50 [(0, vr 0), (1, vi c), (2, vi xz), (3, vi c0), (4, vi (xi : Int))] [] xg := by
    intro m
    induction m with
    | zero => intro xi xg xz a b; exact absurd b (by omega)
    | succ m ih =>
      intro xi xg xz hx hm Pg hr hO hk
      have hr1 := hr.1
      have gE := Pg.2.1.1
      refine x_iload 52 (xd DX8_choose rfl) rfl rfl ?_
      refine x_iload_n 53 (xd DX8_choose rfl) rfl rfl ?_
      refine x_icmp_ge 56 113 (xd DX8_choose rfl) rfl (by omega) (by omega) rfl (fun c53 => ?_) (fun c53 => ?_)
      · refine x_aload_n 114 (xd DX8_choose rfl) rfl rfl ?_
        refine x_gr 117 _ LX8_60 (xd DX8_choose rfl) rfl rfl ⟨by decide, by decide⟩ (by decide) rfl rfl ?_
        refine x_Vv 120 (pX5_end) FX5_end VX5_end CX8_166 (xd DX8_choose rfl) rfl rfl rfl ⟨by decide, rfl⟩ ⟨by decide, by decide⟩ (by decide) (Nat.le_of_ble_eq_true rfl) (by decide) rfl ?_
        rintro h9 q2
        rw [q2]
        clear q2 h9
        refine x_aload_n 121 (xd DX8_choose rfl) rfl rfl ?_
        refine x_gr 124 _ LX8_26 (xd DX8_choose rfl) rfl rfl ⟨by decide, by decide⟩ (by decide) rfl rfl ?_
        refine x_gi 127 1 rfl LX8_97 (xd DX8_choose rfl) rfl ⟨Or.inr ⟨rfl, by decide⟩, by decide⟩ rfl ?_
        refine x_iload_n 128 (xd DX8_choose rfl) rfl rfl ?_
        refine x_isub 129 (xd DX8_choose rfl) rfl ?_
        refine x_ri (xd DX8_choose rfl) rfl ?_
        have hs := hset_c (h := xg) (c := 255) (d := 8) (k := 5) (z := 0) (by decide)
        rw [hs]
        refine hPP xg ?_ hO Pg
        first
          | (refine hk _ ?_; rw [show c.toNat - xi = 0 by omega]; exact ChR.done)
          | (refine hk _ ?_; rw [show c.toNat - xi = (c.toNat - (xi + 1)) + 1 by omega, show xz = 0 by omega]; exact ChR.none)
      · refine x_iload_n 57 (xd DX8_choose rfl) rfl rfl ?_
        refine x_if_eq 60 113 (xd DX8_choose rfl) rfl (by have := hr.1; omega) rfl (fun c57 => ?_) (fun c57 => ?_)
        · refine x_aload_n 114 (xd DX8_choose rfl) rfl rfl ?_
          refine x_gr 117 _ LX8_60 (xd DX8_choose rfl) rfl rfl ⟨by decide, by decide⟩ (by decide) rfl rfl ?_
          refine x_Vv 120 (pX5_end) FX5_end VX5_end CX8_166 (xd DX8_choose rfl) rfl rfl rfl ⟨by decide, rfl⟩ ⟨by decide, by decide⟩ (by decide) (Nat.le_of_ble_eq_true rfl) (by decide) rfl ?_
          rintro h9 q2
          rw [q2]
          clear q2 h9
          refine x_aload_n 121 (xd DX8_choose rfl) rfl rfl ?_
          refine x_gr 124 _ LX8_26 (xd DX8_choose rfl) rfl rfl ⟨by decide, by decide⟩ (by decide) rfl rfl ?_
          refine x_gi 127 1 rfl LX8_97 (xd DX8_choose rfl) rfl ⟨Or.inr ⟨rfl, by decide⟩, by decide⟩ rfl ?_
          refine x_iload_n 128 (xd DX8_choose rfl) rfl rfl ?_
          refine x_isub 129 (xd DX8_choose rfl) rfl ?_
          refine x_ri (xd DX8_choose rfl) rfl ?_
          have hs := hset_c (h := xg) (c := 255) (d := 8) (k := 5) (z := 0) (by decide)
          rw [hs]
          refine hPP xg ?_ hO Pg
          first
            | (refine hk _ ?_; rw [show c.toNat - xi = 0 by omega]; exact ChR.done)
            | (refine hk _ ?_; rw [show c.toNat - xi = (c.toNat - (xi + 1)) + 1 by omega, show xz = 0 by omega]; exact ChR.none)
        · have ok := hr.ok Pg c57
          refine x_aload_n 61 (xd DX8_choose rfl) rfl rfl ?_
          refine x_gr 64 _ LX8_26 (xd DX8_choose rfl) rfl rfl ⟨by decide, by decide⟩ (by decide) rfl rfl ?_
          refine x_aload_n 65 (xd DX8_choose rfl) rfl rfl ?_
          refine x_gr 68 _ LX8_19 (xd DX8_choose rfl) rfl rfl ⟨by decide, by decide⟩ (by decide) rfl rfl ?_
          refine x_aload_n 69 (xd DX8_choose rfl) rfl rfl ?_
          refine x_gr 72 _ LX8_51 (xd DX8_choose rfl) rfl rfl ⟨by decide, by decide⟩ (by decide) rfl rfl ?_
          refine x_gi 75 2 rfl LX8_157 (xd DX8_choose rfl) rfl ⟨Or.inr ⟨rfl, by decide⟩, by decide⟩ rfl ?_
          refine x_aload_n 76 (xd DX8_choose rfl) rfl rfl ?_
          refine x_gr 79 _ LX8_51 (xd DX8_choose rfl) rfl rfl ⟨by decide, by decide⟩ (by decide) rfl rfl ?_
          refine x_gi 82 3 rfl LX8_160 (xd DX8_choose rfl) rfl ⟨Or.inr ⟨rfl, by decide⟩, by decide⟩ rfl ?_
          refine x_aload_n 83 (xd DX8_choose rfl) rfl rfl ?_
          refine x_gr 86 _ LX8_51 (xd DX8_choose rfl) rfl rfl ⟨by decide, by decide⟩ (by decide) rfl rfl ?_
          refine x_gi 89 4 rfl LX8_163 (xd DX8_choose rfl) rfl ⟨Or.inr ⟨rfl, by decide⟩, by decide⟩ rfl ?_
          refine x_Vv 92 (pX6_append (xg 254 2) (xg 254 3) (xg 254 4) (by have := Pg.2.1.1; omega) ok.2.1.1 (by have := ok.2.1.2.1; have := ok.2.1.2.2.1; omega) (by have := ok.2.1.2.2.2.1; have := Pg.1.1; omega) (by have := ok.2.1.2.2.1; have := ok.2.2; omega)) FX6_append VX6_append CX8_141 (xd DX8_choose rfl) rfl rfl rfl ⟨by decide, rfl⟩ ⟨by decide, by decide⟩ (by decide) (Nat.le_of_ble_eq_true rfl) (by decide) rfl ?_
          rintro g2 ⟨o2, a2⟩
          have a2 : AddR xg g2 (xg 254 2) (xg 254 3) (xg 254 4) := a2
          have S2 : SW g2 8 := a2.sw Pg.2.1 Pg.1 ok.2.1 ok.1 ok.2.2
          have P2 : PW g2 := Pg.1.off o2 (by unfold ST; omega) (by unfold ST; omega) (by unfold ST; omega) (by unfold ST; omega)
          have H2 : HW g2 := Pg.2.2.1.same (fun x a b => o2 x (by unfold ST; omega))
          refine x_aload_n 93 (xd DX8_choose rfl) rfl rfl ?_
          refine x_gr 96 _ LX8_42 (xd DX8_choose rfl) rfl rfl ⟨by decide, by decide⟩ (by decide) rfl rfl ?_
          refine x_Vv 99 (pX3_reckon P2 S2) FX3_reckon VX3_reckon CX8_90 (xd DX8_choose rfl) rfl rfl rfl ⟨by decide, rfl⟩ ⟨by decide, by decide⟩ (by decide) (Nat.le_of_ble_eq_true rfl) (by decide) rfl ?_
          rintro g3 ⟨o3, l3⟩
          have q3 : ∀ x, x < 192 → g3 x = g2 x := fun x q => o3 x (by unfold SL; omega)
          have P3 : PicC g3 := ⟨P2.off o3 (by unfold SL; omega) (by unfold SL; omega) (by unfold SL; omega) (by unfold SL; omega), S2.same (fun x q => q3 x (by unfold S26 at q; omega)), H2.same (fun x a b => q3 x b), l3⟩
          have s3 : SEq g3 8 g2 8 := SEq.same (fun x q => q3 x (by unfold S26 at q; omega)) S2.1.2
          have nx : NxtR xg g3 := ⟨(o2.mono (fun x q => Or.inl q)).tr (o3.mono (fun x q => Or.inr q)), AddR.off (fun x _ => rfl) Pg.2.1 ok.1 a2 s3 (by have := ok.2.1.2.2.1; omega), l3⟩
          refine x_aload_n 100 (xd DX8_choose rfl) rfl rfl ?_
          refine x_gr 103 _ LX8_51 (xd DX8_choose rfl) rfl rfl ⟨by decide, by decide⟩ (by decide) rfl rfl ?_
          refine x_Vi 106 (pX0_find (GfC g3) P3.1 P3.2.1 P3.2.2.2 (fun i m z g a b c d => GfC_one P3.1 P3.2.2.2 (by omega) d) (fun i m z g a b c d => GfC_le P3.1 P3.2.1 P3.2.2.2 (c.ok P3.2.2.2 a.2) d)) FX0_find VX0_find CX8_153 (xd DX8_choose rfl) rfl rfl rfl ⟨by decide, rfl⟩ ⟨by decide, by decide⟩ (by decide) (Nat.le_of_ble_eq_true rfl) (by decide) rfl ?_
          rintro z4 g4 fr
          have fr : FndR g3 g4 z4 := fr
          refine x_istore_n 107 (L' := [(0, _), (1, _), (2, _), (3, _), (4, _)]) (xd DX8_choose rfl) (by decide) rfl rfl rfl ?_
          refine x_iinc 110 (L' := [(0, _), (1, _), (2, _), (3, _), (4, _)]) (xd DX8_choose rfl) rfl (by decide) rfl rfl rfl ?_
          refine x_goto 50 (xd DX8_choose rfl) rfl ?_
          exact ih (xi + 1) g4 z4 (by omega) (by omega) (fr.pic P3) fr.rdy ((hO.tr (nx.1.mono (fun x q => by unfold ST SL at q; unfold SCc; omega))).tr (fr.1.mono (fun x q => by unfold STr SGa S3 at q; unfold SCc; omega))) (fun gk q => hk gk (by
            rw [show c.toNat - xi = (c.toNat - (xi + 1)) + 1 by omega]
            exact ChR.next c57 nx fr q))
set_option maxRecDepth 100000 in
set_option maxHeartbeats 4000000 in
theorem pX8_choose {K : XK} {n : Nat} {h : XH} (c : Int) (hC : CI h) (hc : xrg c) : MI K mX8_choose 7 n [vr 0, vi c] h (fun zr h' => (¬ (1 ≤ c ∧ c ≤ 8) → zr = -1 ∧ h' = h) ∧ ((1 ≤ c ∧ c ≤ 8) → ∃ g0 z0, FndR h g0 z0 ∧ CI g0 ∧ (z0 = 0 → zr = -2 ∧ h' = g0) ∧ (z0 ≠ 0 → ∃ g1 gk, KeptR g0 g1 ∧ Off SHi g0 g1 ∧ ChR c.toNat z0 g1 gk ∧ h' = hset gk 255 5 0 ∧ zr = gk 8 1 - h 8 1 ∧ Cgd h h' ∧ KeptR h h'))) := by
  refine xMeth FX8_choose (Nat.le_of_ble_eq_true rfl) ?_
  have hP := hC.1
  have hS := hC.2.1
  have hH := hC.2.2.1
  have hL := hC.2.2.2.1
  have hP1 := hP.1
  have hS1 := hS.1
  have hS2 := hS.2.1
  have hS3 := hS.2.2.1
  have hp : PicC h := ⟨hP, hS, hH, hL⟩
  refine x_iload_n 1 (xd DX8_choose rfl) rfl rfl ?_
  refine x_iconst 2 (xd DX8_choose rfl) rfl ?_
  refine x_icmp_lt 5 11 (xd DX8_choose rfl) rfl (by omega) (by omega) rfl (fun c2 => ?_) (fun c2 => ?_)
  · refine x_iconst 12 (xd DX8_choose rfl) rfl ?_
    refine x_ri (xd DX8_choose rfl) rfl ?_
    exact ⟨fun _ => ⟨rfl, rfl⟩, fun q => absurd q (by omega)⟩
  · refine x_iload_n 6 (xd DX8_choose rfl) rfl rfl ?_
    refine x_bipush 8 (xd DX8_choose rfl) rfl rfl ?_
    refine x_icmp_le 11 13 (xd DX8_choose rfl) rfl (by omega) (by omega) rfl (fun c8 => ?_) (fun c8 => ?_)
    · refine x_aload_n 14 (xd DX8_choose rfl) rfl rfl ?_
      refine x_gr 17 _ LX8_51 (xd DX8_choose rfl) rfl rfl ⟨by decide, by decide⟩ (by decide) rfl rfl ?_
      refine x_Vi 20 (pX0_find (GfC h) hp.1 hp.2.1 hp.2.2.2 (fun i m z g a b c d => GfC_one hp.1 hp.2.2.2 (by omega) d) (fun i m z g a b c d => GfC_le hp.1 hp.2.1 hp.2.2.2 (c.ok hp.2.2.2 a.2) d)) FX0_find VX0_find CX8_153 (xd DX8_choose rfl) rfl rfl rfl ⟨by decide, rfl⟩ ⟨by decide, by decide⟩ (by decide) (Nat.le_of_ble_eq_true rfl) (by decide) rfl ?_
      rintro zf g0 fr
      have fr : FndR h g0 zf := fr
      have rdy := fr.rdy
      have z01 := rdy.1
      have hp0 := fr.pic hp
      have hC0 : CI g0 := hC.scr fr.1 (fun c q => by unfold STr SGa S3 at q; omega)
      have e80 : g0 8 = h 8 := fr.1 8 (by unfold STr SGa S3; omega)
      refine x_istore_n 21 (L' := [(0, _), (1, _), (2, _)]) (xd DX8_choose rfl) (by decide) rfl rfl rfl ?_
      refine x_iload_n 22 (xd DX8_choose rfl) rfl rfl ?_
      refine x_if_ne 25 28 (xd DX8_choose rfl) rfl (by omega) rfl (fun c22 => ?_) (fun c22 => ?_)
      · refine x_aload_n 29 (xd DX8_choose rfl) rfl rfl ?_
        refine x_gr 32 _ LX8_33 (xd DX8_choose rfl) rfl rfl ⟨by decide, by decide⟩ (by decide) rfl rfl ?_
        refine x_aload_n 33 (xd DX8_choose rfl) rfl rfl ?_
        refine x_gr 36 _ LX8_26 (xd DX8_choose rfl) rfl rfl ⟨by decide, by decide⟩ (by decide) rfl rfl ?_
        refine x_Vv 39 (pX2_keep hp0.2.2.1 hp0.2.1) FX2_keep VX2_keep CX8_137 (xd DX8_choose rfl) rfl rfl rfl ⟨by decide, rfl⟩ ⟨by decide, by decide⟩ (by decide) (Nat.le_of_ble_eq_true rfl) (by decide) rfl ?_
        rintro g1 ⟨o1, k1⟩
        have k1 : KeptR g0 g1 := k1
        have l1 : ∀ x, x < 34 → g1 x = g0 x := fun x q => o1 x (by unfold SHi; omega)
        have e8 : g1 8 = h 8 := (l1 8 (by omega)).trans e80
        have hp1 : PicC g1 := by
          have S1 : SW g1 8 := hp0.2.1.same (fun x q => l1 x (by unfold S26 at q; omega))
          exact ⟨hp0.1.off o1 (by unfold SHi; omega) (by unfold SHi; omega) (by unfold SHi; omega) (by unfold SHi; omega), S1, k1.hw hp0.2.2.1 hp0.2.1, hp0.2.2.2.off o1 (fun c q => by unfold SHi; omega) hp0.1 hp0.2.1⟩
        have r1 : RdyC zf g1 := by
          have b := rdy.2
          refine ⟨z01, fun q => ?_⟩
          have b := b q
          unfold SqR at b ⊢
          rw [o1 254 (by unfold SHi; omega), o1 4 (by unfold SHi; omega), o1 193 (by unfold SHi; omega), l1 8 (by omega)]
          exact b
        refine x_aload_n 40 (xd DX8_choose rfl) rfl rfl ?_
        refine x_gr 43 _ LX8_26 (xd DX8_choose rfl) rfl rfl ⟨by decide, by decide⟩ (by decide) rfl rfl ?_
        refine x_gi 46 1 rfl LX8_97 (xd DX8_choose rfl) rfl ⟨Or.inr ⟨rfl, by decide⟩, by decide⟩ rfl ?_
        refine x_istore_n 47 (L' := [(0, _), (1, _), (2, _), (3, _)]) (xd DX8_choose rfl) (by decide) rfl rfl rfl ?_
        refine x_iconst 48 (xd DX8_choose rfl) rfl ?_
        refine x_istore 50 (L' := [(0, _), (1, _), (2, _), (3, _), (4, _)]) (xd DX8_choose rfl) (by decide) rfl rfl rfl ?_
        refine pX8_choose_loop c (g1 8 1) zf c.toNat g1 ⟨by omega, by omega⟩ (by rw [e8]; omega) _ (fun gk b1 b2 b3 => ?_) 100 0 g1 zf (by omega) (by omega) hp1 r1 Off.rf (fun gk q => by rw [Nat.sub_zero] at q; exact q)
        have oo : Off SCh h (hset gk 255 5 0) := (((fr.1.mono (fun x q => by unfold STr SGa S3 at q; unfold SCh; omega)).tr (o1.mono (fun x q => by unfold SHi at q; unfold SCh; omega))).tr (b2.mono (fun x q => by unfold SCc at q; unfold SCh; omega))).tr (Off.set (c := 255) (by unfold SCh; omega))
        have pp : PicC (hset gk 255 5 0) := b3.scr (ocell (c := 255)) (fun c q => by omega)
        have kk : KeptR g0 (hset gk 255 5 0) := k1.off hp0.2.2.1 hp0.2.1 ((b2.mono (fun x q => Or.inl q)).tr (Off.set (S := fun x => SCc x ∨ x = 255) (Or.inr rfl))) (fun x a b => by unfold SCc; omega)
        refine ⟨fun q => absurd ⟨by omega, by omega⟩ q, fun _ => ⟨g0, zf, fr, hC0, fun q => absurd q c22, fun _ => ⟨g1, gk, k1, o1, b1, rfl, by rw [e8], ⟨oo, ⟨pp.1, pp.2.1, pp.2.2.1, pp.2.2.2, Or.inl hset_s, fun q => ?_, ?_, ?_⟩, hset_s⟩, KeptR.of (fun x q => fr.1 x (by unfold STr SGa S3; omega)) hH hS kk⟩⟩⟩
        · rw [hset_s] at q; exact absurd q (by decide)
        · rw [oo 1 (by unfold SCh; omega)]; exact hC.2.2.2.2.2.2.1
        · rw [oo 1 (by unfold SCh; omega), oo 2 (by unfold SCh; omega)]; exact hC.2.2.2.2.2.2.2
      · refine x_bipush 27 (xd DX8_choose rfl) rfl rfl ?_
        refine x_ri (xd DX8_choose rfl) rfl ?_
        exact ⟨fun q => absurd ⟨by omega, by omega⟩ q, fun _ => ⟨g0, zf, fr, hC0, fun _ => ⟨rfl, rfl⟩, fun q => absurd c22 q⟩⟩
    · refine x_iconst 12 (xd DX8_choose rfl) rfl ?_
      refine x_ri (xd DX8_choose rfl) rfl ?_
      exact ⟨fun _ => ⟨rfl, rfl⟩, fun q => absurd q (by omega)⟩
end
section
/-! SqueezedCode: line, entry, start, step -/
set_option maxRecDepth 100000 in
set_option maxHeartbeats 4000000 in
theorem pX8_line {K : XK} {n : Nat} {h : XH} (l w : Int) (hl : xrg l) (hw : xrg w) (hC : CI h) : MI K mX8_line 4 n [vr 0, vi l, vi w] h (fun zr h' => (∃ k : Nat, h 8 2 = (2 ^ k : Nat) ∧ zr = lineC h k l w) ∧ h' = h) := by
  refine xMeth FX8_line (Nat.le_of_ble_eq_true rfl) ?_
  have hlen := hC.len
  have hP1 := hC.1.1
  have hS1 := hC.2.1.1
  have hx5 := hC.2.2.2.2.1
  obtain ⟨k, hk1, hk2, hk3, -⟩ := hC.2.2.2.1.1
  have hlines := hC.lines
  refine x_iload_n 1 (xd DX8_line rfl) rfl rfl ?_
  refine x_if_lt 4 15 (xd DX8_line rfl) rfl (by omega) rfl (fun c1 => ?_) (fun c1 => ?_)
  · refine x_iconst 16 (xd DX8_line rfl) rfl ?_
    refine x_ri (xd DX8_line rfl) rfl ?_
    refine ⟨⟨k, hk3, ?_⟩, rfl⟩
    unfold lineC
    (repeat' split) <;> first | rfl | (exfalso; omega)
  · refine x_iload_n 5 (xd DX8_line rfl) rfl rfl ?_
    refine x_aload_n 6 (xd DX8_line rfl) rfl rfl ?_
    refine x_gr 9 _ LX8_42 (xd DX8_line rfl) rfl rfl ⟨by decide, by decide⟩ (by decide) rfl rfl ?_
    refine x_gi 12 14 rfl LX8_199 (xd DX8_line rfl) rfl ⟨Or.inr ⟨rfl, by decide⟩, by decide⟩ rfl ?_
    refine x_icmp_lt 15 17 (xd DX8_line rfl) rfl (by omega) (by omega) rfl (fun c12 => ?_) (fun c12 => ?_)
    · refine x_iload_n 18 (xd DX8_line rfl) rfl rfl ?_
      have hsw : w = 0 ∨ w = 1 ∨ w = 2 ∨ (w < 0 ∨ 2 < w) := by omega
      rcases hsw with e | e | e | e
      · subst e
        refine x_tableIn 44 (xd DX8_line rfl) (by decide) (by decide) (by decide) rfl rfl ?_
        refine x_aload_n 45 (xd DX8_line rfl) rfl rfl ?_
        refine x_gr 48 _ LX8_42 (xd DX8_line rfl) rfl rfl ⟨by decide, by decide⟩ (by decide) rfl rfl ?_
        refine x_iload_n 49 (xd DX8_line rfl) rfl rfl ?_
        refine x_Vi 52 (pX3_lineAddress l k hC.1 hk2 (by omega) (by omega)) FX3_lineAddress VX3_lineAddress CX8_218 (xd DX8_line rfl) rfl rfl rfl ⟨by decide, rfl⟩ ⟨by decide, by decide⟩ (by decide) (Nat.le_of_ble_eq_true rfl) (by decide) rfl ?_
        rintro z9 h9 ⟨q1, q2⟩
        rw [q1, q2]
        clear q1 q2 z9 h9
        refine x_ri (xd DX8_line rfl) rfl ?_
        refine ⟨⟨k, hk3, ?_⟩, rfl⟩
        unfold lineC
        (repeat' split) <;> first | rfl | (exfalso; omega)
      · subst e
        refine x_tableIn 53 (xd DX8_line rfl) (by decide) (by decide) (by decide) rfl rfl ?_
        refine x_aload_n 54 (xd DX8_line rfl) rfl rfl ?_
        refine x_gr 57 _ LX8_42 (xd DX8_line rfl) rfl rfl ⟨by decide, by decide⟩ (by decide) rfl rfl ?_
        refine x_iload_n 58 (xd DX8_line rfl) rfl rfl ?_
        refine x_Vi 61 (pX3_lineNibbles l k hC.1 hk2 (by omega) (by omega)) FX3_lineNibbles VX3_lineNibbles CX8_221 (xd DX8_line rfl) rfl rfl rfl ⟨by decide, rfl⟩ ⟨by decide, by decide⟩ (by decide) (Nat.le_of_ble_eq_true rfl) (by decide) rfl ?_
        rintro z9 h9 ⟨q1, q2⟩
        rw [q1, q2]
        clear q1 q2 z9 h9
        refine x_ri (xd DX8_line rfl) rfl ?_
        refine ⟨⟨k, hk3, ?_⟩, rfl⟩
        unfold lineC
        (repeat' split) <;> first | rfl | (exfalso; omega)
      · subst e
        refine x_tableIn 62 (xd DX8_line rfl) (by decide) (by decide) (by decide) rfl rfl ?_
        refine x_aload_n 63 (xd DX8_line rfl) rfl rfl ?_
        refine x_gr 66 _ LX8_42 (xd DX8_line rfl) rfl rfl ⟨by decide, by decide⟩ (by decide) rfl rfl ?_
        refine x_aload_n 67 (xd DX8_line rfl) rfl rfl ?_
        refine x_gr 70 _ LX8_42 (xd DX8_line rfl) rfl rfl ⟨by decide, by decide⟩ (by decide) rfl rfl ?_
        refine x_iload_n 71 (xd DX8_line rfl) rfl rfl ?_
        refine x_Vi 74 (pX3_firstOf l k hk2 (by omega)) FX3_firstOf VX3_firstOf CX8_224 (xd DX8_line rfl) rfl rfl rfl ⟨by decide, rfl⟩ ⟨by decide, by decide⟩ (by decide) (Nat.le_of_ble_eq_true rfl) (by decide) rfl ?_
        rintro z9 h9 ⟨q1, q2⟩
        rw [q1, q2]
        clear q1 q2 z9 h9
        refine x_aload_n 75 (xd DX8_line rfl) rfl rfl ?_
        refine x_gr 78 _ LX8_42 (xd DX8_line rfl) rfl rfl ⟨by decide, by decide⟩ (by decide) rfl rfl ?_
        refine x_iload_n 79 (xd DX8_line rfl) rfl rfl ?_
        refine x_iconst 80 (xd DX8_line rfl) rfl ?_
        refine x_iadd 81 (xd DX8_line rfl) rfl ?_
        refine x_Vi 84 (pX3_firstOf (l + 1) k hk2 (by omega)) FX3_firstOf VX3_firstOf CX8_224 (xd DX8_line rfl) rfl rfl rfl ⟨by decide, rfl⟩ ⟨by decide, by decide⟩ (by decide) (Nat.le_of_ble_eq_true rfl) (by decide) rfl ?_
        rintro z9 h9 ⟨q1, q2⟩
        rw [q1, q2]
        clear q1 q2 z9 h9
        have hb : (l * ((2 ^ k : Nat) : Int)).toNat < 1000 ∧ ((l + 1) * ((2 ^ k : Nat) : Int)).toNat < 1000 := by
          rcases hk1 with q | q | q <;> subst q <;> first | (show (l * 4).toNat < 1000 ∧ ((l + 1) * 4).toNat < 1000; omega) | (show (l * 8).toNat < 1000 ∧ ((l + 1) * 8).toNat < 1000; omega) | (show (l * 16).toNat < 1000 ∧ ((l + 1) * 16).toNat < 1000; omega)
        have p0 : (0 : Int) ≤ ((2 ^ k : Nat) : Int) := Int.natCast_nonneg _
        rw [show l * ((2 ^ k : Nat) : Int) = ((l * ((2 ^ k : Nat) : Int)).toNat : Int) from (Int.toNat_of_nonneg (Int.mul_nonneg (by omega) p0)).symm, show (l + 1) * ((2 ^ k : Nat) : Int) = (((l + 1) * ((2 ^ k : Nat) : Int)).toNat : Int) from (Int.toNat_of_nonneg (Int.mul_nonneg (by omega) p0)).symm]
        refine x_Vi 87 (pX3_references (l * ((2 ^ k : Nat) : Int)).toNat ((l + 1) * ((2 ^ k : Nat) : Int)).toNat hC.1 (by omega) hb (fun j a b => by have := (hC.rows a b).2.1; omega)) FX3_references VX3_references CX8_205 (xd DX8_line rfl) rfl rfl rfl ⟨by decide, rfl⟩ ⟨by decide, by decide⟩ (by decide) (Nat.le_of_ble_eq_true rfl) (by decide) rfl ?_
        rintro z9 h9 ⟨q1, q2⟩
        rw [q1, q2]
        clear q1 q2 z9 h9
        refine x_ri (xd DX8_line rfl) rfl ?_
        refine ⟨⟨k, hk3, ?_⟩, rfl⟩
        unfold lineC
        (repeat' split) <;> first | rfl | (exfalso; omega)
      · refine x_tableOut 88 (xd DX8_line rfl) (hw) e rfl ?_
        refine x_iconst 89 (xd DX8_line rfl) rfl ?_
        refine x_ri (xd DX8_line rfl) rfl ?_
        refine ⟨⟨k, hk3, ?_⟩, rfl⟩
        unfold lineC
        (repeat' split) <;> first | rfl | (exfalso; omega)
    · refine x_iconst 16 (xd DX8_line rfl) rfl ?_
      refine x_ri (xd DX8_line rfl) rfl ?_
      refine ⟨⟨k, hk3, ?_⟩, rfl⟩
      unfold lineC
      (repeat' split) <;> first | rfl | (exfalso; omega)

noncomputable def entC (h : XH) (e w : Int) : Int := if 0 ≤ e ∧ e < h 8 1 then (if w = 0 then h (10 + 3 * e.toNat) 2 else if w = 1 then h (10 + 3 * e.toNat) 3 else if w = 2 then cntR (fun j => h 249 j = e ∧ h 250 j = 0) 0 (h 4 3).toNat else if w = 3 then cntR (fun j => Mt h (10 + 3 * e.toNat) j) 0 (h 4 3).toNat else -1) else -1
set_option maxRecDepth 100000 in
set_option maxHeartbeats 4000000 in
theorem pX8_entry {K : XK} {n : Nat} {h : XH} (e w : Int) (he : xrg e) (hw : xrg w) (hC : CI h) : MI K mX8_entry 3 n [vr 0, vi e, vi w] h (fun zr h' => zr = entC h e w ∧ h' = h) := by
  refine xMeth FX8_entry (Nat.le_of_ble_eq_true rfl) ?_
  have hlen := hC.len
  have hP1 := hC.1.1
  have hS1 := hC.2.1.1
  have hx5 := hC.2.2.2.2.1
  refine x_aload_n 1 (xd DX8_entry rfl) rfl rfl ?_
  refine x_gr 4 _ LX8_26 (xd DX8_entry rfl) rfl rfl ⟨by decide, by decide⟩ (by decide) rfl rfl ?_
  refine x_iload_n 5 (xd DX8_entry rfl) rfl rfl ?_
  refine x_Vi 8 (pX6_has e he (by omega)) FX6_has VX6_has CX8_144 (xd DX8_entry rfl) rfl rfl rfl ⟨by decide, rfl⟩ ⟨by decide, by decide⟩ (by decide) (Nat.le_of_ble_eq_true rfl) (by decide) rfl ?_
  rintro z9 h9 ⟨q1, q2⟩
  rw [q1, q2]
  clear q1 q2 z9 h9
  refine x_ifp_ne 11 13 (xd DX8_entry rfl) rfl rfl (fun c8 => ?_) (fun c8 => ?_)
  · obtain ⟨xe, rfl⟩ := Int.eq_ofNat_of_zero_le c8.1
    refine x_aload_n 14 (xd DX8_entry rfl) rfl rfl ?_
    refine x_gr 17 _ LX8_26 (xd DX8_entry rfl) rfl rfl ⟨by decide, by decide⟩ (by decide) rfl rfl ?_
    refine x_gr 20 _ LX8_169 (xd DX8_entry rfl) rfl rfl ⟨by decide, by decide⟩ (by decide) rfl rfl ?_
    refine x_iload_n 21 (xd DX8_entry rfl) rfl rfl ?_
    refine x_aaload 22 (10 + 3 * xe) (xd DX8_entry rfl) rfl (by decide) ⟨by decide, by decide⟩ (by decide) rfl (by omega) (xRF_9 ⟨xe, by omega⟩) (by omega) rfl rfl ?_
    refine x_astore_n 23 (L' := [(0, _), (1, _), (2, _), (3, _)]) (xd DX8_entry rfl) (by decide) rfl rfl rfl ?_
    refine x_iload_n 24 (xd DX8_entry rfl) rfl rfl ?_
    have hsw : w = 0 ∨ w = 1 ∨ w = 2 ∨ w = 3 ∨ (w < 0 ∨ 3 < w) := by omega
    rcases hsw with e | e | e | e | e
    · subst e
      refine x_tableIn 56 (xd DX8_entry rfl) (by decide) (by decide) (by decide) rfl rfl ?_
      refine x_aload_n 57 (xd DX8_entry rfl) rfl rfl ?_
      refine x_gi 60 2 rfl LX8_173 (xd DX8_entry rfl) (xEnt_10 ⟨xe, by omega⟩).1 ⟨Or.inr ⟨rfl, by show 10 + 3 * xe < 259; omega⟩, by omega⟩ rfl ?_
      refine x_ri (xd DX8_entry rfl) rfl ?_
      refine ⟨?_, rfl⟩
      unfold entC
      (try rw [Int.toNat_natCast])
      (repeat' split) <;> first | rfl | (exfalso; omega)
    · subst e
      refine x_tableIn 61 (xd DX8_entry rfl) (by decide) (by decide) (by decide) rfl rfl ?_
      refine x_aload_n 62 (xd DX8_entry rfl) rfl rfl ?_
      refine x_gi 65 3 rfl LX8_176 (xd DX8_entry rfl) (xEnt_10 ⟨xe, by omega⟩).1 ⟨Or.inr ⟨rfl, by show 10 + 3 * xe < 259; omega⟩, by omega⟩ rfl ?_
      refine x_ri (xd DX8_entry rfl) rfl ?_
      refine ⟨?_, rfl⟩
      unfold entC
      (try rw [Int.toNat_natCast])
      (repeat' split) <;> first | rfl | (exfalso; omega)
    · subst e
      refine x_tableIn 66 (xd DX8_entry rfl) (by decide) (by decide) (by decide) rfl rfl ?_
      refine x_aload_n 67 (xd DX8_entry rfl) rfl rfl ?_
      refine x_gr 70 _ LX8_42 (xd DX8_entry rfl) rfl rfl ⟨by decide, by decide⟩ (by decide) rfl rfl ?_
      refine x_iload_n 71 (xd DX8_entry rfl) rfl rfl ?_
      refine x_Vi 74 (pX3_referencesTo (xe : Int) hC.1 (by omega) (fun j a b => by have := hC.rows a b; omega)) FX3_referencesTo VX3_referencesTo CX8_177 (xd DX8_entry rfl) rfl rfl rfl ⟨by decide, rfl⟩ ⟨by decide, by decide⟩ (by decide) (Nat.le_of_ble_eq_true rfl) (by decide) rfl ?_
      rintro z9 h9 ⟨q1, q2⟩
      rw [q1, q2]
      clear q1 q2 z9 h9
      refine x_ri (xd DX8_entry rfl) rfl ?_
      refine ⟨?_, rfl⟩
      unfold entC
      (try rw [Int.toNat_natCast])
      (repeat' split) <;> first | rfl | (exfalso; omega)
    · subst e
      refine x_tableIn 75 (xd DX8_entry rfl) (by decide) (by decide) (by decide) rfl rfl ?_
      refine x_aload_n 76 (xd DX8_entry rfl) rfl rfl ?_
      refine x_gr 79 _ LX8_42 (xd DX8_entry rfl) rfl rfl ⟨by decide, by decide⟩ (by decide) rfl rfl ?_
      refine x_aload_n 80 (xd DX8_entry rfl) rfl rfl ?_
      refine x_Vi 83 (pX3_matchesOf (10 + 3 * xe) (xEnt_10 ⟨xe, by omega⟩) (hC.2.1.ew (by omega)) hC.1 hC.2.2.2.1.hr) FX3_matchesOf VX3_matchesOf CX8_180 (xd DX8_entry rfl) rfl rfl rfl ⟨by decide, rfl⟩ ⟨by decide, by decide⟩ (by decide) (Nat.le_of_ble_eq_true rfl) (by decide) rfl ?_
      rintro z9 h9 ⟨q1, q2⟩
      rw [q1, q2]
      clear q1 q2 z9 h9
      refine x_ri (xd DX8_entry rfl) rfl ?_
      refine ⟨?_, rfl⟩
      unfold entC
      (try rw [Int.toNat_natCast])
      (repeat' split) <;> first | rfl | (exfalso; omega)
    · refine x_tableOut 84 (xd DX8_entry rfl) (hw) e rfl ?_
      refine x_iconst 85 (xd DX8_entry rfl) rfl ?_
      refine x_ri (xd DX8_entry rfl) rfl ?_
      refine ⟨?_, rfl⟩
      unfold entC
      (try rw [Int.toNat_natCast])
      (repeat' split) <;> first | rfl | (exfalso; omega)
  · refine x_iconst 12 (xd DX8_entry rfl) rfl ?_
    refine x_ri (xd DX8_entry rfl) rfl ?_
    refine ⟨?_, rfl⟩
    unfold entC
    rw [if_neg c8]
end
section
/-! SqueezedCode: start, step -/
theorem goH_keeps {k : Nat} : ∀ (m : Nat) {h : XH}, PW h → RW h → (∀ j, 0 ≤ j → j < h 4 3 → xrg (h 251 j)) → Off SRu h (goH h k m) ∧ RW (goH h k m)
  | 0, _, _, hR, _ => ⟨Off.rf, hR⟩
  | m + 1, h, hP, hR, ha => by
    unfold goH
    by_cases q : h 255 6 = 0
    · rw [pik_t q]
      by_cases q2 : h 5 (h 255 9) = 6 ∧ h 255 12 = 12
      · rw [pik_t q2]
        exact ⟨o255, (hR.x.s (j := 6) (z := 1) (by omega)).w (fun z => by rw [hset_s] at z; exact absurd z (by decide))⟩
      · rw [pik_f q2]
        have oo := stpH_off h k
        have r1 := (stp_RW (k := k) hP hR q (fun z => by have := hR.2.2.2.2.2.2.1; omega) ha).1
        obtain ⟨a, b⟩ := goH_keeps m (h := stpH h k) (hP.off oo (by unfold SRu; omega) (by unfold SRu; omega) (by unfold SRu; omega) (by unfold SRu; omega)) r1 (by rw [oo 251 (by unfold SRu; omega), oo 4 (by unfold SRu; omega)]; exact ha)
        exact ⟨oo.tr a, b⟩
    · rw [pik_f q]; exact ⟨Off.rf, hR⟩
theorem CI.run {h xg : XH} (hC : CI h) (hO : Off SRu h xg) (hR : RW xg) : CI xg := by
  have hn : ∀ c, c < 255 → xg c = h c := fun c q => hO c (by unfold SRu; omega)
  have e1 := hn 1 (by omega)
  exact ⟨hC.1.off hO (by unfold SRu; omega) (by unfold SRu; omega) (by unfold SRu; omega) (by unfold SRu; omega), hC.2.1.same (fun x z => hn x (by unfold S26 at z; omega)), hC.2.2.1.same (fun x a b => hn x (by omega)), hC.2.2.2.1.off hO (fun c q y => by unfold SRu at y; omega) hC.1 hC.2.1, hR.1, fun _ => hR, by rw [e1]; exact hC.2.2.2.2.2.2.1, by rw [e1, hn 2 (by omega)]; exact hC.2.2.2.2.2.2.2⟩
theorem Begun.rw1 {h' : XH} {sq mh : Int} (hB : Begun h' sq mh) (hq : sq = 0 ∨ sq = 1) (hm : 1 ≤ mh ∧ mh ≤ 4) (h4 : 1 ≤ h' 4 3) (hc : ∀ j, 0 ≤ j → j < 10 → h' 256 j = 0) : RW h' := by
  obtain ⟨a5, a6, a7, a8, a9, a10, a11, a12, a13, a14, -⟩ := hB
  refine ⟨Or.inr a5, Or.inl a6, by rw [a7]; exact hq, Or.inl a8, fun _ => by omega, by rw [a10]; decide, by omega, by omega, by omega, fun j a b => by rw [hc j a b]; decide, fun j a b => absurd b (by omega)⟩
set_option maxRecDepth 100000 in
set_option maxHeartbeats 4000000 in
theorem pX8_start {K : XK} {n : Nat} {h : XH} (sq : Int) (hq : xrg sq) (hC : CI h) : MI K mX8_start 3 n [vr 0, vi sq] h (fun zr h' => (¬ (0 ≤ sq ∧ sq ≤ 1) → zr = -1 ∧ h' = h) ∧ ((0 ≤ sq ∧ sq ≤ 1) → Off SBg h h' ∧ Begun h' sq (h 8 3) ∧ (∀ j, 0 ≤ j → j < 10 → h' 256 j = 0) ∧ CI h' ∧ zr = 0)) := by
  refine xMeth FX8_start (Nat.le_of_ble_eq_true rfl) ?_
  have hlen := hC.len
  have hP1 := hC.1.1
  have hS1 := hC.2.1.1
  have hS3 := hC.2.1.2.2.1
  have hx5 := hC.2.2.2.2.1
  refine x_iload_n 1 (xd DX8_start rfl) rfl rfl ?_
  refine x_if_lt 4 9 (xd DX8_start rfl) rfl (by omega) rfl (fun c1 => ?_) (fun c1 => ?_)
  · refine x_iconst 10 (xd DX8_start rfl) rfl ?_
    refine x_ri (xd DX8_start rfl) rfl ?_
    exact ⟨fun _ => ⟨rfl, rfl⟩, fun q => absurd q (by omega)⟩
  · refine x_iload_n 5 (xd DX8_start rfl) rfl rfl ?_
    refine x_iconst 6 (xd DX8_start rfl) rfl ?_
    refine x_icmp_le 9 11 (xd DX8_start rfl) rfl (by omega) (by omega) rfl (fun c6 => ?_) (fun c6 => ?_)
    · refine x_aload_n 12 (xd DX8_start rfl) rfl rfl ?_
      refine x_gr 15 _ LX8_60 (xd DX8_start rfl) rfl rfl ⟨by decide, by decide⟩ (by decide) rfl rfl ?_
      refine x_iload_n 16 (xd DX8_start rfl) rfl rfl ?_
      refine x_iconst 17 (xd DX8_start rfl) rfl ?_
      refine x_icmp_ne 20 24 (xd DX8_start rfl) rfl (by omega) (by omega) rfl (fun c17 => ?_) (fun c17 => ?_)
      · refine x_iconst 25 (xd DX8_start rfl) rfl ?_
        refine x_aload_n 26 (xd DX8_start rfl) rfl rfl ?_
        refine x_gr 29 _ LX8_26 (xd DX8_start rfl) rfl rfl ⟨by decide, by decide⟩ (by decide) rfl rfl ?_
        refine x_gi 32 3 rfl LX8_189 (xd DX8_start rfl) rfl ⟨Or.inr ⟨rfl, by decide⟩, by decide⟩ rfl ?_
        refine x_Vv 35 (pX5_begin _ (h 8 3) (by decide) hS3) FX5_begin VX5_begin CX8_233 (xd DX8_start rfl) rfl rfl rfl ⟨by decide, rfl⟩ ⟨by decide, by decide⟩ (by decide) (Nat.le_of_ble_eq_true rfl) (by decide) rfl ?_
        rintro h1 ⟨o1, b1, z1⟩
        refine x_iconst 36 (xd DX8_start rfl) rfl ?_
        refine x_ri (xd DX8_start rfl) rfl ?_
        have r1 : RW h1 := b1.rw1 (by decide) hS3 (by rw [o1 4 (by unfold SBg; omega)]; omega) z1
        have c1 : CI h1 := hC.run (o1.mono (fun x q => by unfold SBg at q; unfold SRu; omega)) r1
        first
          | exact ⟨fun q => absurd ⟨by omega, by omega⟩ q, fun _ => ⟨o1, by rw [show sq = 1 by omega]; exact b1, z1, c1, rfl⟩⟩
          | exact ⟨fun q => absurd ⟨by omega, by omega⟩ q, fun _ => ⟨o1, by rw [show sq = 0 by omega]; exact b1, z1, c1, rfl⟩⟩
      · refine x_iconst 21 (xd DX8_start rfl) rfl ?_
        refine x_goto 25 (xd DX8_start rfl) rfl ?_
        refine x_aload_n 26 (xd DX8_start rfl) rfl rfl ?_
        refine x_gr 29 _ LX8_26 (xd DX8_start rfl) rfl rfl ⟨by decide, by decide⟩ (by decide) rfl rfl ?_
        refine x_gi 32 3 rfl LX8_189 (xd DX8_start rfl) rfl ⟨Or.inr ⟨rfl, by decide⟩, by decide⟩ rfl ?_
        refine x_Vv 35 (pX5_begin _ (h 8 3) (by decide) hS3) FX5_begin VX5_begin CX8_233 (xd DX8_start rfl) rfl rfl rfl ⟨by decide, rfl⟩ ⟨by decide, by decide⟩ (by decide) (Nat.le_of_ble_eq_true rfl) (by decide) rfl ?_
        rintro h1 ⟨o1, b1, z1⟩
        refine x_iconst 36 (xd DX8_start rfl) rfl ?_
        refine x_ri (xd DX8_start rfl) rfl ?_
        have r1 : RW h1 := b1.rw1 (by decide) hS3 (by rw [o1 4 (by unfold SBg; omega)]; omega) z1
        have c1 : CI h1 := hC.run (o1.mono (fun x q => by unfold SBg at q; unfold SRu; omega)) r1
        first
          | exact ⟨fun q => absurd ⟨by omega, by omega⟩ q, fun _ => ⟨o1, by rw [show sq = 1 by omega]; exact b1, z1, c1, rfl⟩⟩
          | exact ⟨fun q => absurd ⟨by omega, by omega⟩ q, fun _ => ⟨o1, by rw [show sq = 0 by omega]; exact b1, z1, c1, rfl⟩⟩
    · refine x_iconst 10 (xd DX8_start rfl) rfl ?_
      refine x_ri (xd DX8_start rfl) rfl ?_
      exact ⟨fun _ => ⟨rfl, rfl⟩, fun q => absurd q (by omega)⟩

set_option maxRecDepth 100000 in
set_option maxHeartbeats 4000000 in
theorem pX8_step {K : XK} {n : Nat} {h : XH} (c : Int) (hc : xrg c) (hC : CI h) : MI K mX8_step 6 n [vr 0, vi c] h (fun zr h' => (¬ (1 ≤ c ∧ c ≤ 400) → zr = -1 ∧ h' = h) ∧ ((1 ≤ c ∧ c ≤ 400) → (h 255 5 = 0 ∨ h 255 6 ≠ 0 → zr = -2 ∧ h' = h) ∧ (h 255 5 = 1 ∧ h 255 6 = 0 → ∃ k : Nat, h 8 2 = (2 ^ k : Nat) ∧ h' = goH h k c.toNat ∧ zr = h' 255 11 - h 255 11 ∧ CI h'))) := by
  refine xMeth FX8_step (Nat.le_of_ble_eq_true rfl) ?_
  have hlen := hC.len
  have hP1 := hC.1.1
  have hS1 := hC.2.1.1
  have hS3 := hC.2.1.2.2.1
  have hx5 := hC.2.2.2.2.1
  obtain ⟨k, hk1, hk2, hk3, -⟩ := hC.2.2.2.1.1
  refine x_iload_n 1 (xd DX8_step rfl) rfl rfl ?_
  refine x_iconst 2 (xd DX8_step rfl) rfl ?_
  refine x_icmp_lt 5 12 (xd DX8_step rfl) rfl (by omega) (by omega) rfl (fun c2 => ?_) (fun c2 => ?_)
  · refine x_iconst 13 (xd DX8_step rfl) rfl ?_
    refine x_ri (xd DX8_step rfl) rfl ?_
    exact ⟨fun _ => ⟨rfl, rfl⟩, fun q => absurd q (by omega)⟩
  · refine x_iload_n 6 (xd DX8_step rfl) rfl rfl ?_
    refine x_sipush 9 (xd DX8_step rfl) rfl rfl ?_
    refine x_icmp_le 12 14 (xd DX8_step rfl) rfl (by omega) (by omega) rfl (fun c9 => ?_) (fun c9 => ?_)
    · refine x_aload_n 15 (xd DX8_step rfl) rfl rfl ?_
      refine x_gr 18 _ LX8_60 (xd DX8_step rfl) rfl rfl ⟨by decide, by decide⟩ (by decide) rfl rfl ?_
      refine x_gz 21 5 rfl LX8_237 (xd DX8_step rfl) rfl ⟨Or.inr ⟨rfl, by decide⟩, by decide⟩ rfl ?_
      refine x_if_eq 24 34 (xd DX8_step rfl) rfl (by omega) rfl (fun c21 => ?_) (fun c21 => ?_)
      · refine x_bipush 36 (xd DX8_step rfl) rfl rfl ?_
        refine x_ri (xd DX8_step rfl) rfl ?_
        first
          | exact ⟨fun q => absurd ⟨by omega, by omega⟩ q, fun _ => ⟨fun _ => ⟨rfl, rfl⟩, fun q => absurd q.1 (by omega)⟩⟩
          | exact ⟨fun q => absurd ⟨by omega, by omega⟩ q, fun _ => ⟨fun _ => ⟨rfl, rfl⟩, fun q => absurd q.2 (by omega)⟩⟩
      · refine x_aload_n 25 (xd DX8_step rfl) rfl rfl ?_
        refine x_gr 28 _ LX8_60 (xd DX8_step rfl) rfl rfl ⟨by decide, by decide⟩ (by decide) rfl rfl ?_
        refine x_gz 31 6 rfl LX8_241 (xd DX8_step rfl) rfl ⟨Or.inr ⟨rfl, by decide⟩, by decide⟩ rfl ?_
        refine x_if_eq 34 37 (xd DX8_step rfl) rfl (by have hR := hC.2.2.2.2.2.1 (by omega); have := hR.2.1; omega) rfl (fun c31 => ?_) (fun c31 => ?_)
        · refine x_aload_n 38 (xd DX8_step rfl) rfl rfl ?_
          refine x_gr 41 _ LX8_60 (xd DX8_step rfl) rfl rfl ⟨by decide, by decide⟩ (by decide) rfl rfl ?_
          refine x_iload_n 42 (xd DX8_step rfl) rfl rfl ?_
          refine x_Vi 45 (pX5_go c k ⟨by omega, by omega⟩ hC.1 (hC.2.2.2.2.2.1 (by omega)) hk2 (by omega) (fun j a b => by have := (hC.rows a b).2.2.1; omega)) FX5_go VX5_go CX8_244 (xd DX8_step rfl) rfl rfl rfl ⟨by decide, rfl⟩ ⟨by decide, by decide⟩ (by decide) (Nat.le_of_ble_eq_true rfl) (by decide) rfl ?_
          rintro zr h1 ⟨g1, g2⟩
          refine x_ri (xd DX8_step rfl) rfl ?_
          have hR := hC.2.2.2.2.2.1 (by omega)
          have kp := goH_keeps (k := k) c.toNat hC.1 hR (fun j a b => by have := (hC.rows a b).2.2.1; omega)
          rw [← g1] at kp
          have h6 := hR.2.1
          exact ⟨fun q => absurd ⟨by omega, by omega⟩ q, fun _ => ⟨fun q => absurd q (by omega), fun _ => ⟨k, hk3, g1, g2, hC.run kp.1 kp.2⟩⟩⟩
        · refine x_bipush 36 (xd DX8_step rfl) rfl rfl ?_
          refine x_ri (xd DX8_step rfl) rfl ?_
          first
            | exact ⟨fun q => absurd ⟨by omega, by omega⟩ q, fun _ => ⟨fun _ => ⟨rfl, rfl⟩, fun q => absurd q.1 (by omega)⟩⟩
            | exact ⟨fun q => absurd ⟨by omega, by omega⟩ q, fun _ => ⟨fun _ => ⟨rfl, rfl⟩, fun q => absurd q.2 (by omega)⟩⟩
    · refine x_iconst 13 (xd DX8_step rfl) rfl ?_
      refine x_ri (xd DX8_step rfl) rfl ?_
      exact ⟨fun _ => ⟨rfl, rfl⟩, fun q => absurd q (by omega)⟩
end
section
/-! SqueezedCodeModel: letters, entries -/
def mSim (k : Int) : Prop := k = 97 ∨ k = 109 ∨ k = 120 ∨ k = 115 ∨ k = 108 ∨ k = 112 ∨ k = 119
def mPl (k : Int) : Prop := k = 106 ∨ k = 122 ∨ k = 107
noncomputable def mOwn (k : Int) : Int := pik (mSim k) 2 (pik (mPl k) 4 1)
noncomputable def mLet (k : Int) : Int := pik (mSim k) 2 (pik (mPl k) 3 1)
def mEnt (e : Int) : Int := if e < 8 then 10 * e else 83
def mRef (h : XH) (e : Int) : Int := if h 266 (mEnt e + 1) = -4 then 2 else 3
def mTbN (h : XH) : Nat → Int
  | 0 => 0
  | e + 1 => mTbN h e + (1 + 2 * h 266 (10 * (e : Int)))
set_option maxRecDepth 100000 in
set_option maxHeartbeats 4000000 in
theorem pX9_isSimple {K : XK} {n : Nat} {h : XH} (k : Int) (hk : xrg k) : MI K mX9_isSimple 0 n [vi k] h (fun zr h' => zr = xp (mSim k) ∧ h' = h) := by
  refine xMeth FX9_isSimple (Nat.le_of_ble_eq_true rfl) ?_
  refine x_iload_n 1 (xd DX9_isSimple rfl) rfl rfl ?_
  refine x_bipush 3 (xd DX9_isSimple rfl) rfl rfl ?_
  refine x_icmp_eq 6 42 (xd DX9_isSimple rfl) rfl (by omega) (by omega) rfl (fun c3 => ?_) (fun c3 => ?_)
  · refine x_iconst 43 (xd DX9_isSimple rfl) rfl ?_
    refine x_goto 47 (xd DX9_isSimple rfl) rfl ?_
    refine x_rz (xd DX9_isSimple rfl) rfl (by omega) ?_
    first | exact ⟨xp_t (by unfold mSim; omega), rfl⟩ | exact ⟨xp_f (by unfold mSim; omega), rfl⟩
  · refine x_iload_n 7 (xd DX9_isSimple rfl) rfl rfl ?_
    refine x_bipush 9 (xd DX9_isSimple rfl) rfl rfl ?_
    refine x_icmp_eq 12 42 (xd DX9_isSimple rfl) rfl (by omega) (by omega) rfl (fun c9 => ?_) (fun c9 => ?_)
    · refine x_iconst 43 (xd DX9_isSimple rfl) rfl ?_
      refine x_goto 47 (xd DX9_isSimple rfl) rfl ?_
      refine x_rz (xd DX9_isSimple rfl) rfl (by omega) ?_
      first | exact ⟨xp_t (by unfold mSim; omega), rfl⟩ | exact ⟨xp_f (by unfold mSim; omega), rfl⟩
    · refine x_iload_n 13 (xd DX9_isSimple rfl) rfl rfl ?_
      refine x_bipush 15 (xd DX9_isSimple rfl) rfl rfl ?_
      refine x_icmp_eq 18 42 (xd DX9_isSimple rfl) rfl (by omega) (by omega) rfl (fun c15 => ?_) (fun c15 => ?_)
      · refine x_iconst 43 (xd DX9_isSimple rfl) rfl ?_
        refine x_goto 47 (xd DX9_isSimple rfl) rfl ?_
        refine x_rz (xd DX9_isSimple rfl) rfl (by omega) ?_
        first | exact ⟨xp_t (by unfold mSim; omega), rfl⟩ | exact ⟨xp_f (by unfold mSim; omega), rfl⟩
      · refine x_iload_n 19 (xd DX9_isSimple rfl) rfl rfl ?_
        refine x_bipush 21 (xd DX9_isSimple rfl) rfl rfl ?_
        refine x_icmp_eq 24 42 (xd DX9_isSimple rfl) rfl (by omega) (by omega) rfl (fun c21 => ?_) (fun c21 => ?_)
        · refine x_iconst 43 (xd DX9_isSimple rfl) rfl ?_
          refine x_goto 47 (xd DX9_isSimple rfl) rfl ?_
          refine x_rz (xd DX9_isSimple rfl) rfl (by omega) ?_
          first | exact ⟨xp_t (by unfold mSim; omega), rfl⟩ | exact ⟨xp_f (by unfold mSim; omega), rfl⟩
        · refine x_iload_n 25 (xd DX9_isSimple rfl) rfl rfl ?_
          refine x_bipush 27 (xd DX9_isSimple rfl) rfl rfl ?_
          refine x_icmp_eq 30 42 (xd DX9_isSimple rfl) rfl (by omega) (by omega) rfl (fun c27 => ?_) (fun c27 => ?_)
          · refine x_iconst 43 (xd DX9_isSimple rfl) rfl ?_
            refine x_goto 47 (xd DX9_isSimple rfl) rfl ?_
            refine x_rz (xd DX9_isSimple rfl) rfl (by omega) ?_
            first | exact ⟨xp_t (by unfold mSim; omega), rfl⟩ | exact ⟨xp_f (by unfold mSim; omega), rfl⟩
          · refine x_iload_n 31 (xd DX9_isSimple rfl) rfl rfl ?_
            refine x_bipush 33 (xd DX9_isSimple rfl) rfl rfl ?_
            refine x_icmp_eq 36 42 (xd DX9_isSimple rfl) rfl (by omega) (by omega) rfl (fun c33 => ?_) (fun c33 => ?_)
            · refine x_iconst 43 (xd DX9_isSimple rfl) rfl ?_
              refine x_goto 47 (xd DX9_isSimple rfl) rfl ?_
              refine x_rz (xd DX9_isSimple rfl) rfl (by omega) ?_
              first | exact ⟨xp_t (by unfold mSim; omega), rfl⟩ | exact ⟨xp_f (by unfold mSim; omega), rfl⟩
            · refine x_iload_n 37 (xd DX9_isSimple rfl) rfl rfl ?_
              refine x_bipush 39 (xd DX9_isSimple rfl) rfl rfl ?_
              refine x_icmp_ne 42 46 (xd DX9_isSimple rfl) rfl (by omega) (by omega) rfl (fun c39 => ?_) (fun c39 => ?_)
              · refine x_iconst 47 (xd DX9_isSimple rfl) rfl ?_
                refine x_rz (xd DX9_isSimple rfl) rfl (by omega) ?_
                first | exact ⟨xp_t (by unfold mSim; omega), rfl⟩ | exact ⟨xp_f (by unfold mSim; omega), rfl⟩
              · refine x_iconst 43 (xd DX9_isSimple rfl) rfl ?_
                refine x_goto 47 (xd DX9_isSimple rfl) rfl ?_
                refine x_rz (xd DX9_isSimple rfl) rfl (by omega) ?_
                first | exact ⟨xp_t (by unfold mSim; omega), rfl⟩ | exact ⟨xp_f (by unfold mSim; omega), rfl⟩

set_option maxRecDepth 100000 in
set_option maxHeartbeats 4000000 in
theorem pX9_hasPlace {K : XK} {n : Nat} {h : XH} (k : Int) (hk : xrg k) : MI K mX9_hasPlace 0 n [vi k] h (fun zr h' => zr = xp (mPl k) ∧ h' = h) := by
  refine xMeth FX9_hasPlace (Nat.le_of_ble_eq_true rfl) ?_
  refine x_iload_n 1 (xd DX9_hasPlace rfl) rfl rfl ?_
  refine x_bipush 3 (xd DX9_hasPlace rfl) rfl rfl ?_
  refine x_icmp_eq 6 18 (xd DX9_hasPlace rfl) rfl (by omega) (by omega) rfl (fun c3 => ?_) (fun c3 => ?_)
  · refine x_iconst 19 (xd DX9_hasPlace rfl) rfl ?_
    refine x_goto 23 (xd DX9_hasPlace rfl) rfl ?_
    refine x_rz (xd DX9_hasPlace rfl) rfl (by omega) ?_
    first | exact ⟨xp_t (by unfold mPl; omega), rfl⟩ | exact ⟨xp_f (by unfold mPl; omega), rfl⟩
  · refine x_iload_n 7 (xd DX9_hasPlace rfl) rfl rfl ?_
    refine x_bipush 9 (xd DX9_hasPlace rfl) rfl rfl ?_
    refine x_icmp_eq 12 18 (xd DX9_hasPlace rfl) rfl (by omega) (by omega) rfl (fun c9 => ?_) (fun c9 => ?_)
    · refine x_iconst 19 (xd DX9_hasPlace rfl) rfl ?_
      refine x_goto 23 (xd DX9_hasPlace rfl) rfl ?_
      refine x_rz (xd DX9_hasPlace rfl) rfl (by omega) ?_
      first | exact ⟨xp_t (by unfold mPl; omega), rfl⟩ | exact ⟨xp_f (by unfold mPl; omega), rfl⟩
    · refine x_iload_n 13 (xd DX9_hasPlace rfl) rfl rfl ?_
      refine x_bipush 15 (xd DX9_hasPlace rfl) rfl rfl ?_
      refine x_icmp_ne 18 22 (xd DX9_hasPlace rfl) rfl (by omega) (by omega) rfl (fun c15 => ?_) (fun c15 => ?_)
      · refine x_iconst 23 (xd DX9_hasPlace rfl) rfl ?_
        refine x_rz (xd DX9_hasPlace rfl) rfl (by omega) ?_
        first | exact ⟨xp_t (by unfold mPl; omega), rfl⟩ | exact ⟨xp_f (by unfold mPl; omega), rfl⟩
      · refine x_iconst 19 (xd DX9_hasPlace rfl) rfl ?_
        refine x_goto 23 (xd DX9_hasPlace rfl) rfl ?_
        refine x_rz (xd DX9_hasPlace rfl) rfl (by omega) ?_
        first | exact ⟨xp_t (by unfold mPl; omega), rfl⟩ | exact ⟨xp_f (by unfold mPl; omega), rfl⟩

set_option maxRecDepth 100000 in
set_option maxHeartbeats 4000000 in
theorem pX9_lettersOf {K : XK} {n : Nat} {h : XH} (k : Int) (hk : xrg k) : MI K mX9_lettersOf 1 n [vi k] h (fun zr h' => zr = mLet k ∧ h' = h) := by
  refine xMeth FX9_lettersOf (Nat.le_of_ble_eq_true rfl) ?_
  refine x_iload_n 1 (xd DX9_lettersOf rfl) rfl rfl ?_
  refine x_Si 4 (pX9_isSimple k hk) FX9_isSimple VX9_isSimple CX9_86 (xd DX9_lettersOf rfl) rfl rfl (by decide) (Nat.le_of_ble_eq_true rfl) (by decide) rfl ?_
  rintro z9 h9 ⟨q1, q2⟩
  rw [q1, q2]
  clear q1 q2 z9 h9
  refine x_ifp_eq 7 11 (xd DX9_lettersOf rfl) rfl rfl (fun c4 => ?_) (fun c4 => ?_)
  · refine x_iload_n 12 (xd DX9_lettersOf rfl) rfl rfl ?_
    refine x_Si 15 (pX9_hasPlace k hk) FX9_hasPlace VX9_hasPlace CX9_90 (xd DX9_lettersOf rfl) rfl rfl (by decide) (Nat.le_of_ble_eq_true rfl) (by decide) rfl ?_
    rintro z9 h9 ⟨q1, q2⟩
    rw [q1, q2]
    clear q1 q2 z9 h9
    refine x_ifp_eq 18 22 (xd DX9_lettersOf rfl) rfl rfl (fun c15 => ?_) (fun c15 => ?_)
    · refine x_iconst 23 (xd DX9_lettersOf rfl) rfl ?_
      refine x_ri (xd DX9_lettersOf rfl) rfl ?_
      refine ⟨?_, rfl⟩
      unfold mLet
      simp only [*, pik_t, pik_f, not_true, not_false_iff]
    · refine x_iconst 19 (xd DX9_lettersOf rfl) rfl ?_
      refine x_goto 23 (xd DX9_lettersOf rfl) rfl ?_
      refine x_ri (xd DX9_lettersOf rfl) rfl ?_
      refine ⟨?_, rfl⟩
      unfold mLet
      simp only [*, pik_t, pik_f, not_true, not_false_iff]
  · refine x_iconst 8 (xd DX9_lettersOf rfl) rfl ?_
    refine x_goto 23 (xd DX9_lettersOf rfl) rfl ?_
    refine x_ri (xd DX9_lettersOf rfl) rfl ?_
    refine ⟨?_, rfl⟩
    unfold mLet
    simp only [*, pik_t, pik_f, not_true, not_false_iff]

set_option maxRecDepth 100000 in
set_option maxHeartbeats 4000000 in
theorem pX9_own {K : XK} {n : Nat} {h : XH} (k : Int) (hk : xrg k) : MI K mX9_own 1 n [vi k] h (fun zr h' => zr = mOwn k ∧ h' = h) := by
  refine xMeth FX9_own (Nat.le_of_ble_eq_true rfl) ?_
  refine x_iload_n 1 (xd DX9_own rfl) rfl rfl ?_
  refine x_Si 4 (pX9_isSimple k hk) FX9_isSimple VX9_isSimple CX9_86 (xd DX9_own rfl) rfl rfl (by decide) (Nat.le_of_ble_eq_true rfl) (by decide) rfl ?_
  rintro z9 h9 ⟨q1, q2⟩
  rw [q1, q2]
  clear q1 q2 z9 h9
  refine x_ifp_eq 7 11 (xd DX9_own rfl) rfl rfl (fun c4 => ?_) (fun c4 => ?_)
  · refine x_iload_n 12 (xd DX9_own rfl) rfl rfl ?_
    refine x_Si 15 (pX9_hasPlace k hk) FX9_hasPlace VX9_hasPlace CX9_90 (xd DX9_own rfl) rfl rfl (by decide) (Nat.le_of_ble_eq_true rfl) (by decide) rfl ?_
    rintro z9 h9 ⟨q1, q2⟩
    rw [q1, q2]
    clear q1 q2 z9 h9
    refine x_ifp_eq 18 22 (xd DX9_own rfl) rfl rfl (fun c15 => ?_) (fun c15 => ?_)
    · refine x_iconst 23 (xd DX9_own rfl) rfl ?_
      refine x_ri (xd DX9_own rfl) rfl ?_
      refine ⟨?_, rfl⟩
      unfold mOwn
      simp only [*, pik_t, pik_f, not_true, not_false_iff]
    · refine x_iconst 19 (xd DX9_own rfl) rfl ?_
      refine x_goto 23 (xd DX9_own rfl) rfl ?_
      refine x_ri (xd DX9_own rfl) rfl ?_
      refine ⟨?_, rfl⟩
      unfold mOwn
      simp only [*, pik_t, pik_f, not_true, not_false_iff]
  · refine x_iconst 8 (xd DX9_own rfl) rfl ?_
    refine x_goto 23 (xd DX9_own rfl) rfl ?_
    refine x_ri (xd DX9_own rfl) rfl ?_
    refine ⟨?_, rfl⟩
    unfold mOwn
    simp only [*, pik_t, pik_f, not_true, not_false_iff]

set_option maxRecDepth 100000 in
set_option maxHeartbeats 4000000 in
theorem pX9_entryAt {K : XK} {n : Nat} {h : XH} (e : Int) (he : xrg e) : MI K mX9_entryAt 0 n [vr 259, vi e] h (fun zr h' => zr = mEnt e ∧ h' = h) := by
  refine xMeth FX9_entryAt (Nat.le_of_ble_eq_true rfl) ?_
  refine x_iload_n 1 (xd DX9_entryAt rfl) rfl rfl ?_
  refine x_bipush 3 (xd DX9_entryAt rfl) rfl rfl ?_
  refine x_icmp_ge 6 13 (xd DX9_entryAt rfl) rfl (by omega) (by omega) rfl (fun c3 => ?_) (fun c3 => ?_)
  · refine x_bipush 15 (xd DX9_entryAt rfl) rfl rfl ?_
    refine x_ri (xd DX9_entryAt rfl) rfl ?_
    refine ⟨?_, rfl⟩
    unfold mEnt
    first | rw [if_pos (by omega)] | rw [if_neg (by omega)]
  · refine x_bipush 8 (xd DX9_entryAt rfl) rfl rfl ?_
    refine x_iload_n 9 (xd DX9_entryAt rfl) rfl rfl ?_
    refine x_imul 10 (xd DX9_entryAt rfl) rfl ?_
    refine x_goto 15 (xd DX9_entryAt rfl) rfl ?_
    refine x_ri (xd DX9_entryAt rfl) rfl ?_
    refine ⟨?_, rfl⟩
    unfold mEnt
    first | rw [if_pos (by omega)] | rw [if_neg (by omega)]

set_option maxRecDepth 100000 in
set_option maxHeartbeats 4000000 in
theorem pX9_refers {K : XK} {n : Nat} {h : XH} (e : Int) (he : 0 ≤ e ∧ e ≤ 8) (hh : xrg (h 266 (mEnt e + 1))) : MI K mX9_refers 1 n [vr 259, vi e] h (fun zr h' => zr = mRef h e ∧ h' = h) := by
  refine xMeth FX9_refers (Nat.le_of_ble_eq_true rfl) ?_
  have hM : 0 ≤ mEnt e ∧ mEnt e ≤ 83 := by unfold mEnt; split <;> omega
  refine x_aload_n 1 (xd DX9_refers rfl) rfl rfl ?_
  refine x_gr 4 _ LX9_28 (xd DX9_refers rfl) rfl rfl ⟨by decide, by decide⟩ (by decide) rfl rfl ?_
  refine x_aload_n 5 (xd DX9_refers rfl) rfl rfl ?_
  refine x_iload_n 6 (xd DX9_refers rfl) rfl rfl ?_
  refine x_Vi 9 (pX9_entryAt e (by omega)) FX9_entryAt VX9_entryAt CX9_116 (xd DX9_refers rfl) rfl rfl rfl ⟨by decide, rfl⟩ ⟨by decide, by decide⟩ (by decide) (Nat.le_of_ble_eq_true rfl) (by decide) rfl ?_
  rintro z9 h9 ⟨q1, q2⟩
  rw [q1, q2]
  clear q1 q2 z9 h9
  refine x_iconst 10 (xd DX9_refers rfl) rfl ?_
  refine x_iadd 11 (xd DX9_refers rfl) rfl ?_
  refine x_iaload 12 (xd DX9_refers rfl) rfl ⟨Or.inr ⟨rfl, by decide⟩, by decide⟩ (by decide) (by omega) (by omega) rfl ?_
  refine x_bipush 14 (xd DX9_refers rfl) rfl rfl ?_
  refine x_icmp_ne 17 21 (xd DX9_refers rfl) rfl (by omega) (by omega) rfl (fun c14 => ?_) (fun c14 => ?_)
  · refine x_iconst 22 (xd DX9_refers rfl) rfl ?_
    refine x_ri (xd DX9_refers rfl) rfl ?_
    refine ⟨?_, rfl⟩
    unfold mRef
    first | rw [if_pos (by omega)] | rw [if_neg (by omega)]
  · refine x_iconst 18 (xd DX9_refers rfl) rfl ?_
    refine x_goto 22 (xd DX9_refers rfl) rfl ?_
    refine x_ri (xd DX9_refers rfl) rfl ?_
    refine ⟨?_, rfl⟩
    unfold mRef
    first | rw [if_pos (by omega)] | rw [if_neg (by omega)]

set_option maxRecDepth 100000 in
set_option maxHeartbeats 4000000 in
theorem pX9_lines {K : XK} {n : Nat} {h : XH} (h5 : 0 ≤ h 259 5 ∧ h 259 5 ≤ 48) (h8 : 1 ≤ h 266 80 ∧ h 266 80 ≤ 16) : MI K mX9_lines 0 n [vr 259] h (fun zr h' => zr = (h 259 5 + h 266 80 - 1) / h 266 80 ∧ h' = h) := by
  refine xMeth FX9_lines (Nat.le_of_ble_eq_true rfl) ?_
  refine x_aload_n 1 (xd DX9_lines rfl) rfl rfl ?_
  refine x_gi 4 5 rfl LX9_103 (xd DX9_lines rfl) rfl ⟨Or.inr ⟨rfl, by decide⟩, by decide⟩ rfl ?_
  refine x_aload_n 5 (xd DX9_lines rfl) rfl rfl ?_
  refine x_gr 8 _ LX9_28 (xd DX9_lines rfl) rfl rfl ⟨by decide, by decide⟩ (by decide) rfl rfl ?_
  refine x_bipush 10 (xd DX9_lines rfl) rfl rfl ?_
  refine x_iaload 11 (xd DX9_lines rfl) rfl ⟨Or.inr ⟨rfl, by decide⟩, by decide⟩ (by decide) (by omega) (by omega) rfl ?_
  refine x_iadd 12 (xd DX9_lines rfl) rfl ?_
  refine x_iconst 13 (xd DX9_lines rfl) rfl ?_
  refine x_isub 14 (xd DX9_lines rfl) rfl ?_
  refine x_aload_n 15 (xd DX9_lines rfl) rfl rfl ?_
  refine x_gr 18 _ LX9_28 (xd DX9_lines rfl) rfl rfl ⟨by decide, by decide⟩ (by decide) rfl rfl ?_
  refine x_bipush 20 (xd DX9_lines rfl) rfl rfl ?_
  refine x_iaload 21 (xd DX9_lines rfl) rfl ⟨Or.inr ⟨rfl, by decide⟩, by decide⟩ (by decide) (by omega) (by omega) rfl ?_
  refine x_idiv 22 (by omega) (by omega) (by omega) (by omega) (xd DX9_lines rfl) rfl ?_
  refine x_ri (xd DX9_lines rfl) rfl ?_
  exact ⟨rfl, rfl⟩

set_option maxRecDepth 100000 in
set_option maxHeartbeats 4000000 in
theorem pX9_wipe {K : XK} {n : Nat} {h : XH}  : MI K mX9_wipe 0 n [vr 259] h (fun zr h' => zr = h 259 0 ∧ h' = hset h 259 0 0) := by
  refine xMeth FX9_wipe (Nat.le_of_ble_eq_true rfl) ?_
  refine x_aload_n 1 (xd DX9_wipe rfl) rfl rfl ?_
  refine x_gi 4 0 rfl LX9_75 (xd DX9_wipe rfl) rfl ⟨Or.inr ⟨rfl, by decide⟩, by decide⟩ rfl ?_
  refine x_istore_n 5 (L' := [(0, _), (1, _)]) (xd DX9_wipe rfl) (by decide) rfl rfl rfl ?_
  refine x_aload_n 6 (xd DX9_wipe rfl) rfl rfl ?_
  refine x_iconst 7 (xd DX9_wipe rfl) rfl ?_
  refine x_pi 10 0 rfl LX9_75 (xd DX9_wipe rfl) rfl rfl ⟨Or.inr ⟨rfl, by decide⟩, by decide⟩ rfl ?_
  refine x_iload_n 11 (xd DX9_wipe rfl) rfl rfl ?_
  refine x_ri (xd DX9_wipe rfl) rfl ?_
  exact ⟨rfl, rfl⟩
end
section
/-! SqueezedCodeModel: within, table size, going on -/
set_option maxRecDepth 100000 in
set_option maxHeartbeats 4000000 in
theorem pX9_in {K : XK} {n : Nat} {h : XH} (a b c : Int) (ha : xrg a) (hb : xrg b) (hc : xrg c) : MI K mX9_in 0 n [vl a, vl b, vl c] h (fun zr h' => zr = xp (b ≤ a ∧ a ≤ c) ∧ h' = h) := by
  refine xMeth FX9_in (Nat.le_of_ble_eq_true rfl) ?_
  refine x_lload_n 1 (xd DX9_in rfl) rfl rfl ?_
  refine x_lload_n 2 (xd DX9_in rfl) rfl rfl ?_
  refine x_lcmp 3 (by omega) (by omega) (xd DX9_in rfl) rfl ?_
  refine x_if_lt 6 17 (xd DX9_in rfl) rfl (by omega) rfl (fun c3 => ?_) (fun c3 => ?_)
  · refine x_iconst 18 (xd DX9_in rfl) rfl ?_
    refine x_rz (xd DX9_in rfl) rfl (by omega) ?_
    first | exact ⟨xp_t (by omega), rfl⟩ | exact ⟨xp_f (by omega), rfl⟩
  · refine x_lload_n 7 (xd DX9_in rfl) rfl rfl ?_
    refine x_lload 9 (xd DX9_in rfl) rfl rfl ?_
    refine x_lcmp 10 (by omega) (by omega) (xd DX9_in rfl) rfl ?_
    refine x_if_gt 13 17 (xd DX9_in rfl) rfl (by omega) rfl (fun c10 => ?_) (fun c10 => ?_)
    · refine x_iconst 18 (xd DX9_in rfl) rfl ?_
      refine x_rz (xd DX9_in rfl) rfl (by omega) ?_
      first | exact ⟨xp_t (by omega), rfl⟩ | exact ⟨xp_f (by omega), rfl⟩
    · refine x_iconst 14 (xd DX9_in rfl) rfl ?_
      refine x_goto 18 (xd DX9_in rfl) rfl ?_
      refine x_rz (xd DX9_in rfl) rfl (by omega) ?_
      first | exact ⟨xp_t (by omega), rfl⟩ | exact ⟨xp_f (by omega), rfl⟩

set_option maxRecDepth 100000 in
set_option maxHeartbeats 4000000 in
theorem pX9_isCode {K : XK} {n : Nat} {h : XH} (i : Int) (hi : xrg i) (h5 : 0 ≤ h 259 5 ∧ h 259 5 ≤ 48) : MI K mX9_isCode 1 n [vr 259, vi i] h (fun zr h' => zr = xp (0 ≤ i ∧ i ≤ h 259 5 - 1) ∧ h' = h) := by
  refine xMeth FX9_isCode (Nat.le_of_ble_eq_true rfl) ?_
  refine x_iload_n 1 (xd DX9_isCode rfl) rfl rfl ?_
  refine x_i2l 2 (by omega) (xd DX9_isCode rfl) rfl ?_
  refine x_lconst 3 (xd DX9_isCode rfl) (z := 0) rfl rfl ?_
  refine x_aload_n 4 (xd DX9_isCode rfl) rfl rfl ?_
  refine x_gi 7 5 rfl LX9_103 (xd DX9_isCode rfl) rfl ⟨Or.inr ⟨rfl, by decide⟩, by decide⟩ rfl ?_
  refine x_iconst 8 (xd DX9_isCode rfl) rfl ?_
  refine x_isub 9 (xd DX9_isCode rfl) rfl ?_
  refine x_i2l 10 (by omega) (xd DX9_isCode rfl) rfl ?_
  refine x_Si 13 (pX9_in i 0 (h 259 5 - 1) hi (by decide) (by omega)) FX9_in VX9_in CX9_71 (xd DX9_isCode rfl) rfl rfl (by decide) (Nat.le_of_ble_eq_true rfl) (by decide) rfl ?_
  rintro z9 h9 ⟨q1, q2⟩
  rw [q1, q2]
  clear q1 q2 z9 h9
  refine x_rz (xd DX9_isCode rfl) rfl (by have := xp01 (0 ≤ i ∧ i ≤ h 259 5 - 1); omega) ?_
  exact ⟨rfl, rfl⟩

set_option maxRecDepth 100000 in
set_option maxHeartbeats 4000000 in
theorem pX9_isEntry {K : XK} {n : Nat} {h : XH} (i : Int) (hi : xrg i) (h5 : 0 ≤ h 266 82 ∧ h 266 82 ≤ 8) : MI K mX9_isEntry 1 n [vr 259, vi i] h (fun zr h' => zr = xp (0 ≤ i ∧ i ≤ h 266 82 - 1) ∧ h' = h) := by
  refine xMeth FX9_isEntry (Nat.le_of_ble_eq_true rfl) ?_
  refine x_iload_n 1 (xd DX9_isEntry rfl) rfl rfl ?_
  refine x_i2l 2 (by omega) (xd DX9_isEntry rfl) rfl ?_
  refine x_lconst 3 (xd DX9_isEntry rfl) (z := 0) rfl rfl ?_
  refine x_aload_n 4 (xd DX9_isEntry rfl) rfl rfl ?_
  refine x_gr 7 _ LX9_28 (xd DX9_isEntry rfl) rfl rfl ⟨by decide, by decide⟩ (by decide) rfl rfl ?_
  refine x_bipush 9 (xd DX9_isEntry rfl) rfl rfl ?_
  refine x_iaload 10 (xd DX9_isEntry rfl) rfl ⟨Or.inr ⟨rfl, by decide⟩, by decide⟩ (by decide) (by omega) (by omega) rfl ?_
  refine x_iconst 11 (xd DX9_isEntry rfl) rfl ?_
  refine x_isub 12 (xd DX9_isEntry rfl) rfl ?_
  refine x_i2l 13 (by omega) (xd DX9_isEntry rfl) rfl ?_
  refine x_Si 16 (pX9_in i 0 (h 266 82 - 1) hi (by decide) (by omega)) FX9_in VX9_in CX9_71 (xd DX9_isEntry rfl) rfl rfl (by decide) (Nat.le_of_ble_eq_true rfl) (by decide) rfl ?_
  rintro z9 h9 ⟨q1, q2⟩
  rw [q1, q2]
  clear q1 q2 z9 h9
  refine x_rz (xd DX9_isEntry rfl) rfl (by have := xp01 (0 ≤ i ∧ i ≤ h 266 82 - 1); omega) ?_
  exact ⟨rfl, rfl⟩

set_option maxRecDepth 100000 in
set_option maxHeartbeats 4000000 in
theorem pX9_tableSize {K : XK} {n : Nat} {h : XH} (hE : 0 ≤ h 266 82 ∧ h 266 82 ≤ 8) : MI K mX9_tableSize 0 n [vr 259] h (fun zr h' => zr = mTbN h (h 266 82).toNat ∧ h' = h) := by
  refine xMeth FX9_tableSize (Nat.le_of_ble_eq_true rfl) ?_
  have loop : ∀ (m : Nat) (xi : Nat) (xz : Int), (xi : Int) ≤ h 266 82 → h 266 82 - xi < (m : Int) → xz = mTbN h xi → WI K mX9_tableSize 0 n (qI n (fun zr h' => zr = mTbN h (h 266 82).toNat ∧ h' = h)) 4 [(0, vr 259), (1, vi xz), (2, vi (xi : Int))] [] h := by
    intro m
    induction m with
    | zero => intro xi xz a b; exact absurd b (by omega)
    | succ m ih =>
      intro xi xz h0 hm hz
      refine x_iload_n 5 (xd DX9_tableSize rfl) rfl rfl ?_
      refine x_aload_n 6 (xd DX9_tableSize rfl) rfl rfl ?_
      refine x_gr 9 _ LX9_28 (xd DX9_tableSize rfl) rfl rfl ⟨by decide, by decide⟩ (by decide) rfl rfl ?_
      refine x_bipush 11 (xd DX9_tableSize rfl) rfl rfl ?_
      refine x_iaload 12 (xd DX9_tableSize rfl) rfl ⟨Or.inr ⟨rfl, by decide⟩, by decide⟩ (by decide) (by omega) (by omega) rfl ?_
      refine x_icmp_ge 15 37 (xd DX9_tableSize rfl) rfl (by omega) (by omega) rfl (fun c12 => ?_) (fun c12 => ?_)
      · refine x_iload_n 38 (xd DX9_tableSize rfl) rfl rfl ?_
        refine x_ri (xd DX9_tableSize rfl) rfl ?_
        refine ⟨?_, rfl⟩
        rw [hz, show (h 266 82).toNat = xi by omega]
      · refine x_iload_n 16 (xd DX9_tableSize rfl) rfl rfl ?_
        refine x_iconst 17 (xd DX9_tableSize rfl) rfl ?_
        refine x_iconst 18 (xd DX9_tableSize rfl) rfl ?_
        refine x_aload_n 19 (xd DX9_tableSize rfl) rfl rfl ?_
        refine x_gr 22 _ LX9_28 (xd DX9_tableSize rfl) rfl rfl ⟨by decide, by decide⟩ (by decide) rfl rfl ?_
        refine x_bipush 24 (xd DX9_tableSize rfl) rfl rfl ?_
        refine x_iload_n 25 (xd DX9_tableSize rfl) rfl rfl ?_
        refine x_imul 26 (xd DX9_tableSize rfl) rfl ?_
        refine x_iaload 27 (xd DX9_tableSize rfl) rfl ⟨Or.inr ⟨rfl, by decide⟩, by decide⟩ (by decide) (by omega) (by omega) rfl ?_
        refine x_imul 28 (xd DX9_tableSize rfl) rfl ?_
        refine x_iadd 29 (xd DX9_tableSize rfl) rfl ?_
        refine x_iadd 30 (xd DX9_tableSize rfl) rfl ?_
        refine x_istore_n 31 (L' := [(0, _), (1, _), (2, _)]) (xd DX9_tableSize rfl) (by decide) rfl rfl rfl ?_
        refine x_iinc 34 (L' := [(0, _), (1, _), (2, _)]) (xd DX9_tableSize rfl) rfl (by decide) rfl rfl rfl ?_
        refine x_goto 4 (xd DX9_tableSize rfl) rfl ?_
        refine ih (xi + 1) _ (by omega) (by omega) ?_
        unfold mTbN
        rw [hz]
  refine x_iconst 1 (xd DX9_tableSize rfl) rfl ?_
  refine x_istore_n 2 (L' := [(0, _), (1, _)]) (xd DX9_tableSize rfl) (by decide) rfl rfl rfl ?_
  refine x_iconst 3 (xd DX9_tableSize rfl) rfl ?_
  refine x_istore_n 4 (L' := [(0, _), (1, _), (2, _)]) (xd DX9_tableSize rfl) (by decide) rfl rfl rfl ?_
  exact loop 100 0 0 (by omega) (by omega) rfl
end
section
/-! SqueezedCodeModel: isSequence -/
def MSs (h : XH) (i d : Int) : Prop := ∀ x, 0 ≤ x → x < d → mSim (h 263 (i + x)) ∧ (x = 0 ∨ h 265 (i + x) = 0)
def MSq (h : XH) (i m : Int) : Prop := i + m ≤ h 259 5 ∧ i / h 266 80 = (i + m - 1) / h 266 80 ∧ MSs h i m
theorem MSs_s {h : XH} {i j : Int} (hij : i ≤ j) : MSs h i (j + 1 - i) ↔ (MSs h i (j - i) ∧ mSim (h 263 j) ∧ (j = i ∨ h 265 j = 0)) := by
  constructor
  · intro q
    have q1 := q (j - i) (by omega) (by omega)
    rw [show i + (j - i) = j by omega] at q1
    exact ⟨fun x a b => q x a (by omega), q1.1, q1.2.elim (fun z => Or.inl (by omega)) Or.inr⟩
  · intro q x a b
    by_cases e : x = j - i
    · rw [show i + x = j by omega]; exact ⟨q.2.1, q.2.2.elim (fun z => Or.inl (by omega)) Or.inr⟩
    · exact q.1 x a (by omega)
set_option maxRecDepth 100000 in
set_option maxHeartbeats 4000000 in
theorem pX9_isSequence {K : XK} {n : Nat} {h : XH} (i mm : Int) (hi : 0 ≤ i ∧ i ≤ 1000) (hm : 1 ≤ mm ∧ mm ≤ 1000) (h5 : 0 ≤ h 259 5 ∧ h 259 5 ≤ 48) (h8 : 1 ≤ h 266 80 ∧ h 266 80 ≤ 16) (hh : ∀ j, 0 ≤ j → j < h 259 5 → xrg (h 263 j) ∧ (h 265 j = 0 ∨ h 265 j = 1)) : MI K mX9_isSequence 1 n [vr 259, vi i, vi mm] h (fun zr h' => zr = xp (MSq h i mm) ∧ h' = h) := by
  refine xMeth FX9_isSequence (Nat.le_of_ble_eq_true rfl) ?_
  have loop : ∀ (m : Nat) (xj : Int) (xz : Int), i ≤ xj → xj ≤ i + mm → i + mm - xj < (m : Int) → i + mm ≤ h 259 5 → i / h 266 80 = (i + mm - 1) / h 266 80 → xz = xp (MSs h i (xj - i)) → WI K mX9_isSequence 1 n (qI n (fun zr h' => zr = xp (MSq h i mm) ∧ h' = h)) 42 [(0, vr 259), (1, vi i), (2, vi mm), (3, vi xz), (4, vi xj)] [] h := by
    intro m
    induction m with
    | zero => intro xj xz a b c; exact absurd c (by omega)
    | succ m ih =>
      intro xj xz h0 h1 hmm hA hB hz
      refine x_iload 44 (xd DX9_isSequence rfl) rfl rfl ?_
      refine x_iload_n 45 (xd DX9_isSequence rfl) rfl rfl ?_
      refine x_iload_n 46 (xd DX9_isSequence rfl) rfl rfl ?_
      refine x_iadd 47 (xd DX9_isSequence rfl) rfl ?_
      refine x_icmp_ge 50 95 (xd DX9_isSequence rfl) rfl (by omega) (by omega) rfl (fun c47 => ?_) (fun c47 => ?_)
      · refine x_iload_n 96 (xd DX9_isSequence rfl) rfl rfl ?_
        refine x_rz (xd DX9_isSequence rfl) rfl (by have := xp01 (MSs h i (xj - i)); omega) ?_
        refine ⟨?_, rfl⟩
        rw [hz, show xj - i = mm by omega]
        exact xp_c ⟨fun q => ⟨hA, hB, q⟩, fun q => q.2.2⟩
      · refine x_iload_n 51 (xd DX9_isSequence rfl) rfl rfl ?_
        refine x_if_eq 54 87 (xd DX9_isSequence rfl) rfl (by have := xp01 (MSs h i (xj - i)); omega) rfl (fun c51 => ?_) (fun c51 => ?_)
        · have hno : ¬ (MSs h i (xj - i) ∧ mSim (h 263 xj) ∧ (xj = i ∨ h 265 xj = 0)) := fun q => xp_0.mp (hz.symm.trans c51) q.1
          refine x_iconst 88 (xd DX9_isSequence rfl) rfl ?_
          refine x_istore_n 89 (L' := [(0, _), (1, _), (2, _), (3, _), (4, _)]) (xd DX9_isSequence rfl) (by decide) rfl rfl rfl ?_
          refine x_iinc 92 (L' := [(0, _), (1, _), (2, _), (3, _), (4, _)]) (xd DX9_isSequence rfl) rfl (by decide) rfl rfl rfl ?_
          refine x_goto 42 (xd DX9_isSequence rfl) rfl ?_
          refine ih (xj + 1) _ (by omega) (by omega) (by omega) hA hB ?_
          rw [xp_c (MSs_s (h := h) (i := i) (j := xj) (by omega))]
          first | exact xp_t hyes | exact xp_f hno
        · have hy1 : MSs h i (xj - i) := xp_1.mp (by have := xp01 (MSs h i (xj - i)); omega)
          refine x_aload_n 55 (xd DX9_isSequence rfl) rfl rfl ?_
          refine x_gr 58 _ LX9_19 (xd DX9_isSequence rfl) rfl rfl ⟨by decide, by decide⟩ (by decide) rfl rfl ?_
          refine x_iload 60 (xd DX9_isSequence rfl) rfl rfl ?_
          refine x_iaload 61 (xd DX9_isSequence rfl) rfl ⟨Or.inr ⟨rfl, by decide⟩, by decide⟩ (by decide) (by omega) (by omega) rfl ?_
          refine x_Si 64 (pX9_isSimple (h 263 xj) (hh xj (by omega) (by omega)).1) FX9_isSimple VX9_isSimple CX9_86 (xd DX9_isSequence rfl) rfl rfl (by decide) (Nat.le_of_ble_eq_true rfl) (by decide) rfl ?_
          rintro z9 h9 ⟨q1, q2⟩
          rw [q1, q2]
          clear q1 q2 z9 h9
          refine x_ifp_eq 67 87 (xd DX9_isSequence rfl) rfl rfl (fun c64 => ?_) (fun c64 => ?_)
          · have hno : ¬ (MSs h i (xj - i) ∧ mSim (h 263 xj) ∧ (xj = i ∨ h 265 xj = 0)) := fun q => c64 q.2.1
            refine x_iconst 88 (xd DX9_isSequence rfl) rfl ?_
            refine x_istore_n 89 (L' := [(0, _), (1, _), (2, _), (3, _), (4, _)]) (xd DX9_isSequence rfl) (by decide) rfl rfl rfl ?_
            refine x_iinc 92 (L' := [(0, _), (1, _), (2, _), (3, _), (4, _)]) (xd DX9_isSequence rfl) rfl (by decide) rfl rfl rfl ?_
            refine x_goto 42 (xd DX9_isSequence rfl) rfl ?_
            refine ih (xj + 1) _ (by omega) (by omega) (by omega) hA hB ?_
            rw [xp_c (MSs_s (h := h) (i := i) (j := xj) (by omega))]
            first | exact xp_t hyes | exact xp_f hno
          · refine x_iload 69 (xd DX9_isSequence rfl) rfl rfl ?_
            refine x_iload_n 70 (xd DX9_isSequence rfl) rfl rfl ?_
            refine x_icmp_eq 73 83 (xd DX9_isSequence rfl) rfl (by omega) (by omega) rfl (fun c70 => ?_) (fun c70 => ?_)
            · have hyes : MSs h i (xj - i) ∧ mSim (h 263 xj) ∧ (xj = i ∨ h 265 xj = 0) := ⟨hy1, c64, Or.inl c70⟩
              refine x_iconst 84 (xd DX9_isSequence rfl) rfl ?_
              refine x_goto 88 (xd DX9_isSequence rfl) rfl ?_
              refine x_istore_n 89 (L' := [(0, _), (1, _), (2, _), (3, _), (4, _)]) (xd DX9_isSequence rfl) (by decide) rfl rfl rfl ?_
              refine x_iinc 92 (L' := [(0, _), (1, _), (2, _), (3, _), (4, _)]) (xd DX9_isSequence rfl) rfl (by decide) rfl rfl rfl ?_
              refine x_goto 42 (xd DX9_isSequence rfl) rfl ?_
              refine ih (xj + 1) _ (by omega) (by omega) (by omega) hA hB ?_
              rw [xp_c (MSs_s (h := h) (i := i) (j := xj) (by omega))]
              first | exact xp_t hyes | exact xp_f hno
            · refine x_aload_n 74 (xd DX9_isSequence rfl) rfl rfl ?_
              refine x_gr 77 _ LX9_25 (xd DX9_isSequence rfl) rfl rfl ⟨by decide, by decide⟩ (by decide) rfl rfl ?_
              refine x_iload 79 (xd DX9_isSequence rfl) rfl rfl ?_
              refine x_iaload 80 (xd DX9_isSequence rfl) rfl ⟨Or.inr ⟨rfl, by decide⟩, by decide⟩ (by decide) (by omega) (by omega) rfl ?_
              refine x_if_ne 83 87 (xd DX9_isSequence rfl) rfl (by have := (hh xj (by omega) (by omega)).2; omega) rfl (fun c80 => ?_) (fun c80 => ?_)
              · have hno : ¬ (MSs h i (xj - i) ∧ mSim (h 263 xj) ∧ (xj = i ∨ h 265 xj = 0)) := fun q => q.2.2.elim c70 c80
                refine x_iconst 88 (xd DX9_isSequence rfl) rfl ?_
                refine x_istore_n 89 (L' := [(0, _), (1, _), (2, _), (3, _), (4, _)]) (xd DX9_isSequence rfl) (by decide) rfl rfl rfl ?_
                refine x_iinc 92 (L' := [(0, _), (1, _), (2, _), (3, _), (4, _)]) (xd DX9_isSequence rfl) rfl (by decide) rfl rfl rfl ?_
                refine x_goto 42 (xd DX9_isSequence rfl) rfl ?_
                refine ih (xj + 1) _ (by omega) (by omega) (by omega) hA hB ?_
                rw [xp_c (MSs_s (h := h) (i := i) (j := xj) (by omega))]
                first | exact xp_t hyes | exact xp_f hno
              · have hyes : MSs h i (xj - i) ∧ mSim (h 263 xj) ∧ (xj = i ∨ h 265 xj = 0) := ⟨hy1, c64, Or.inr c80⟩
                refine x_iconst 84 (xd DX9_isSequence rfl) rfl ?_
                refine x_goto 88 (xd DX9_isSequence rfl) rfl ?_
                refine x_istore_n 89 (L' := [(0, _), (1, _), (2, _), (3, _), (4, _)]) (xd DX9_isSequence rfl) (by decide) rfl rfl rfl ?_
                refine x_iinc 92 (L' := [(0, _), (1, _), (2, _), (3, _), (4, _)]) (xd DX9_isSequence rfl) rfl (by decide) rfl rfl rfl ?_
                refine x_goto 42 (xd DX9_isSequence rfl) rfl ?_
                refine ih (xj + 1) _ (by omega) (by omega) (by omega) hA hB ?_
                rw [xp_c (MSs_s (h := h) (i := i) (j := xj) (by omega))]
                first | exact xp_t hyes | exact xp_f hno
  refine x_iload_n 1 (xd DX9_isSequence rfl) rfl rfl ?_
  refine x_iload_n 2 (xd DX9_isSequence rfl) rfl rfl ?_
  refine x_iadd 3 (xd DX9_isSequence rfl) rfl ?_
  refine x_aload_n 4 (xd DX9_isSequence rfl) rfl rfl ?_
  refine x_gi 7 5 rfl LX9_103 (xd DX9_isSequence rfl) rfl ⟨Or.inr ⟨rfl, by decide⟩, by decide⟩ rfl ?_
  refine x_icmp_gt 10 35 (xd DX9_isSequence rfl) rfl (by omega) (by omega) rfl (fun c7 => ?_) (fun c7 => ?_)
  · refine x_iconst 36 (xd DX9_isSequence rfl) rfl ?_
    refine x_rz (xd DX9_isSequence rfl) rfl (by omega) ?_
    first
      | exact ⟨xp_f (fun q => by have := q.1; omega), rfl⟩
      | exact ⟨xp_f (fun q => c32 q.2.1), rfl⟩
  · refine x_iload_n 11 (xd DX9_isSequence rfl) rfl rfl ?_
    refine x_aload_n 12 (xd DX9_isSequence rfl) rfl rfl ?_
    refine x_gr 15 _ LX9_28 (xd DX9_isSequence rfl) rfl rfl ⟨by decide, by decide⟩ (by decide) rfl rfl ?_
    refine x_bipush 17 (xd DX9_isSequence rfl) rfl rfl ?_
    refine x_iaload 18 (xd DX9_isSequence rfl) rfl ⟨Or.inr ⟨rfl, by decide⟩, by decide⟩ (by decide) (by omega) (by omega) rfl ?_
    refine x_idiv 19 (by omega) (by omega) (by omega) (by omega) (xd DX9_isSequence rfl) rfl ?_
    refine x_iload_n 20 (xd DX9_isSequence rfl) rfl rfl ?_
    refine x_iload_n 21 (xd DX9_isSequence rfl) rfl rfl ?_
    refine x_iadd 22 (xd DX9_isSequence rfl) rfl ?_
    refine x_iconst 23 (xd DX9_isSequence rfl) rfl ?_
    refine x_isub 24 (xd DX9_isSequence rfl) rfl ?_
    refine x_aload_n 25 (xd DX9_isSequence rfl) rfl rfl ?_
    refine x_gr 28 _ LX9_28 (xd DX9_isSequence rfl) rfl rfl ⟨by decide, by decide⟩ (by decide) rfl rfl ?_
    refine x_bipush 30 (xd DX9_isSequence rfl) rfl rfl ?_
    refine x_iaload 31 (xd DX9_isSequence rfl) rfl ⟨Or.inr ⟨rfl, by decide⟩, by decide⟩ (by decide) (by omega) (by omega) rfl ?_
    refine x_idiv 32 (by omega) (by omega) (by omega) (by omega) (xd DX9_isSequence rfl) rfl ?_
    refine x_icmp_eq 35 37 (xd DX9_isSequence rfl) rfl (by have d1 := Int.ediv_le_self (a := i) (h 266 80) (by omega); have d2 := Int.ediv_nonneg (a := i) (b := h 266 80) (by omega) (by omega); have d3 := Int.ediv_le_self (a := i + mm - 1) (h 266 80) (by omega); have d4 := Int.ediv_nonneg (a := i + mm - 1) (b := h 266 80) (by omega) (by omega); omega) (by have d1 := Int.ediv_le_self (a := i) (h 266 80) (by omega); have d2 := Int.ediv_nonneg (a := i) (b := h 266 80) (by omega) (by omega); have d3 := Int.ediv_le_self (a := i + mm - 1) (h 266 80) (by omega); have d4 := Int.ediv_nonneg (a := i + mm - 1) (b := h 266 80) (by omega) (by omega); omega) rfl (fun c32 => ?_) (fun c32 => ?_)
    · refine x_iconst 38 (xd DX9_isSequence rfl) rfl ?_
      refine x_istore_n 39 (L' := [(0, _), (1, _), (2, _), (3, _)]) (xd DX9_isSequence rfl) (by decide) rfl rfl rfl ?_
      refine x_iload_n 40 (xd DX9_isSequence rfl) rfl rfl ?_
      refine x_istore 42 (L' := [(0, _), (1, _), (2, _), (3, _), (4, _)]) (xd DX9_isSequence rfl) (by decide) rfl rfl rfl ?_
      exact loop 2000 i 1 (Int.le_refl _) (by omega) (by omega) (by omega) (by omega) (xp_t (fun x a b => absurd b (by omega)))
    · refine x_iconst 36 (xd DX9_isSequence rfl) rfl ?_
      refine x_rz (xd DX9_isSequence rfl) rfl (by omega) ?_
      first
        | exact ⟨xp_f (fun q => by have := q.1; omega), rfl⟩
        | exact ⟨xp_f (fun q => c32 q.2.1), rfl⟩
end
section
/-! SqueezedCodeModel: matches -/
def MFs (h : XH) (i c d : Int) : Prop := ∀ x, 0 ≤ x → x < d → h 263 (i + x) = h 266 (c + 2 + x) ∧ (x = h 266 (c + 1) ∨ h 264 (i + x) = h 266 (c + 6 + x))
def MMt (h : XH) (i c : Int) : Prop := MSq h i (h 266 c) ∧ MFs h i c (h 266 c)
/-- the reference's cells: the program, the table -/
def MPW (h : XH) : Prop := (0 ≤ h 259 5 ∧ h 259 5 ≤ 48) ∧ ∀ j, 0 ≤ j → j < h 259 5 → xrg (h 263 j) ∧ xrg (h 264 j) ∧ (h 265 j = 0 ∨ h 265 j = 1)
def MTW (h : XH) : Prop := (1 ≤ h 266 80 ∧ h 266 80 ≤ 16) ∧ (0 ≤ h 266 82 ∧ h 266 82 ≤ 8) ∧ ∀ j, 0 ≤ j → j < 93 → xrg (h 266 j)
theorem MFs_s {h : XH} {i c d : Int} (hd : 0 ≤ d) : MFs h i c (d + 1) ↔ (MFs h i c d ∧ h 263 (i + d) = h 266 (c + 2 + d) ∧ (d = h 266 (c + 1) ∨ h 264 (i + d) = h 266 (c + 6 + d))) := by
  constructor
  · intro q
    exact ⟨fun x a b => q x a (by omega), q d hd (by omega)⟩
  · intro q x a b
    by_cases e : x = d
    · rw [e]; exact q.2
    · exact q.1 x a (by omega)
theorem mEnt_rg {e : Int} (he : 0 ≤ e ∧ e ≤ 8) : 0 ≤ mEnt e ∧ mEnt e ≤ 83 := by unfold mEnt; split <;> omega
set_option maxRecDepth 100000 in
set_option maxHeartbeats 4000000 in
theorem pX9_matches {K : XK} {n : Nat} {h : XH} (i e : Int) (hi : 0 ≤ i ∧ i ≤ 1000) (he : 0 ≤ e ∧ e ≤ 8) (hP : MPW h) (hT : MTW h) (hm : 1 ≤ h 266 (mEnt e) ∧ h 266 (mEnt e) ≤ 4) : MI K mX9_matches 2 n [vr 259, vi i, vi e] h (fun zr h' => zr = xp (MMt h i (mEnt e)) ∧ h' = h) := by
  refine xMeth FX9_matches (Nat.le_of_ble_eq_true rfl) ?_
  have hP1 := hP.1
  have hc1 := mEnt_rg he
  have loop : ∀ c, mEnt e = c → (0 ≤ c ∧ c ≤ 83) → (1 ≤ h 266 c ∧ h 266 c ≤ 4) → ∀ (m : Nat) (xj : Int) (xz : Int), 0 ≤ xj → xj ≤ h 266 c → h 266 c - xj < (m : Int) → xz = xp (MSq h i (h 266 c) ∧ MFs h i c xj) → WI K mX9_matches 2 n (qI n (fun zr h' => zr = xp (MMt h i (mEnt e)) ∧ h' = h)) 26 [(0, vr 259), (1, vi i), (2, vi e), (3, vi c), (4, vi (h 266 c)), (5, vi xz), (6, vi xj)] [] h := by
    intro c hcc hc1 hm m
    induction m with
    | zero => intro xj xz a b c; exact absurd c (by omega)
    | succ m ih =>
      intro xj xz h0 h1 hmm hz
      refine x_iload 28 (xd DX9_matches rfl) rfl rfl ?_
      refine x_iload 30 (xd DX9_matches rfl) rfl rfl ?_
      refine x_icmp_ge 33 111 (xd DX9_matches rfl) rfl (by omega) (by omega) rfl (fun c30 => ?_) (fun c30 => ?_)
      · refine x_iload 113 (xd DX9_matches rfl) rfl rfl ?_
        refine x_rz (xd DX9_matches rfl) rfl (by have := xp01 (MSq h i (h 266 c) ∧ MFs h i c xj); omega) ?_
        first
          | exact ⟨c35.trans (xp_f hn0), rfl⟩
          | (refine ⟨?_, rfl⟩; rw [hz, show xj = h 266 c by omega, hcc]; rfl)
      · refine x_iload 35 (xd DX9_matches rfl) rfl rfl ?_
        refine x_if_eq 38 111 (xd DX9_matches rfl) rfl (by have := xp01 (MSq h i (h 266 c) ∧ MFs h i c xj); omega) rfl (fun c35 => ?_) (fun c35 => ?_)
        · have hn0 : ¬ MMt h i (mEnt e) := fun q => by
            rw [hcc] at q
            exact xp_0.mp (hz.symm.trans c35) ⟨q.1, fun x a b => q.2 x a (by omega)⟩
          refine x_iload 113 (xd DX9_matches rfl) rfl rfl ?_
          refine x_rz (xd DX9_matches rfl) rfl (by have := xp01 (MSq h i (h 266 c) ∧ MFs h i c xj); omega) ?_
          first
            | exact ⟨c35.trans (xp_f hn0), rfl⟩
            | (refine ⟨?_, rfl⟩; rw [hz, show xj = h 266 c by omega, hcc]; rfl)
        · have hy1 : MSq h i (h 266 c) ∧ MFs h i c xj := xp_1.mp (by have := xp01 (MSq h i (h 266 c) ∧ MFs h i c xj); omega)
          have hN1 := hy1.1.1
          have k1 := (hP.2 (i + xj) (by omega) (by omega))
          have k2 := hT.2.2 (c + 2 + xj) (by omega) (by omega)
          have k3 := hT.2.2 (c + 6 + xj) (by omega) (by omega)
          have k4 := hT.2.2 (c + 1) (by omega) (by omega)
          refine x_aload_n 39 (xd DX9_matches rfl) rfl rfl ?_
          refine x_gr 42 _ LX9_19 (xd DX9_matches rfl) rfl rfl ⟨by decide, by decide⟩ (by decide) rfl rfl ?_
          refine x_iload_n 43 (xd DX9_matches rfl) rfl rfl ?_
          refine x_iload 45 (xd DX9_matches rfl) rfl rfl ?_
          refine x_iadd 46 (xd DX9_matches rfl) rfl ?_
          refine x_iaload 47 (xd DX9_matches rfl) rfl ⟨Or.inr ⟨rfl, by decide⟩, by decide⟩ (by decide) (by omega) (by omega) rfl ?_
          refine x_aload_n 48 (xd DX9_matches rfl) rfl rfl ?_
          refine x_gr 51 _ LX9_28 (xd DX9_matches rfl) rfl rfl ⟨by decide, by decide⟩ (by decide) rfl rfl ?_
          refine x_iload_n 52 (xd DX9_matches rfl) rfl rfl ?_
          refine x_iconst 53 (xd DX9_matches rfl) rfl ?_
          refine x_iadd 54 (xd DX9_matches rfl) rfl ?_
          refine x_iload 56 (xd DX9_matches rfl) rfl rfl ?_
          refine x_iadd 57 (xd DX9_matches rfl) rfl ?_
          refine x_iaload 58 (xd DX9_matches rfl) rfl ⟨Or.inr ⟨rfl, by decide⟩, by decide⟩ (by decide) (by omega) (by omega) rfl ?_
          refine x_icmp_ne 61 102 (xd DX9_matches rfl) rfl (by omega) (by omega) rfl (fun c58 => ?_) (fun c58 => ?_)
          · have hno : ¬ ((MSq h i (h 266 c) ∧ MFs h i c xj) ∧ h 263 (i + xj) = h 266 (c + 2 + xj) ∧ (xj = h 266 (c + 1) ∨ h 264 (i + xj) = h 266 (c + 6 + xj))) := fun q => c58 q.2.1
            refine x_iconst 103 (xd DX9_matches rfl) rfl ?_
            refine x_istore 105 (L' := [(0, _), (1, _), (2, _), (3, _), (4, _), (5, _), (6, _)]) (xd DX9_matches rfl) (by decide) rfl rfl rfl ?_
            refine x_iinc 108 (L' := [(0, _), (1, _), (2, _), (3, _), (4, _), (5, _), (6, _)]) (xd DX9_matches rfl) rfl (by decide) rfl rfl rfl ?_
            refine x_goto 26 (xd DX9_matches rfl) rfl ?_
            refine ih (xj + 1) _ (by omega) (by omega) (by omega) ?_
            rw [xp_c (p := MSq h i (h 266 c) ∧ MFs h i c (xj + 1)) (q := (MSq h i (h 266 c) ∧ MFs h i c xj) ∧ h 263 (i + xj) = h 266 (c + 2 + xj) ∧ (xj = h 266 (c + 1) ∨ h 264 (i + xj) = h 266 (c + 6 + xj))) ⟨fun q => ⟨⟨q.1, ((MFs_s h0).mp q.2).1⟩, ((MFs_s h0).mp q.2).2⟩, fun q => ⟨q.1.1, (MFs_s h0).mpr ⟨q.1.2, q.2⟩⟩⟩]
            first | exact xp_t hyes | exact xp_f hno
          · refine x_iload 63 (xd DX9_matches rfl) rfl rfl ?_
            refine x_aload_n 64 (xd DX9_matches rfl) rfl rfl ?_
            refine x_gr 67 _ LX9_28 (xd DX9_matches rfl) rfl rfl ⟨by decide, by decide⟩ (by decide) rfl rfl ?_
            refine x_iload_n 68 (xd DX9_matches rfl) rfl rfl ?_
            refine x_iconst 69 (xd DX9_matches rfl) rfl ?_
            refine x_iadd 70 (xd DX9_matches rfl) rfl ?_
            refine x_iaload 71 (xd DX9_matches rfl) rfl ⟨Or.inr ⟨rfl, by decide⟩, by decide⟩ (by decide) (by omega) (by omega) rfl ?_
            refine x_icmp_eq 74 98 (xd DX9_matches rfl) rfl (by omega) (by omega) rfl (fun c71 => ?_) (fun c71 => ?_)
            · have hyes : (MSq h i (h 266 c) ∧ MFs h i c xj) ∧ h 263 (i + xj) = h 266 (c + 2 + xj) ∧ (xj = h 266 (c + 1) ∨ h 264 (i + xj) = h 266 (c + 6 + xj)) := ⟨hy1, c58, Or.inl c71⟩
              refine x_iconst 99 (xd DX9_matches rfl) rfl ?_
              refine x_goto 103 (xd DX9_matches rfl) rfl ?_
              refine x_istore 105 (L' := [(0, _), (1, _), (2, _), (3, _), (4, _), (5, _), (6, _)]) (xd DX9_matches rfl) (by decide) rfl rfl rfl ?_
              refine x_iinc 108 (L' := [(0, _), (1, _), (2, _), (3, _), (4, _), (5, _), (6, _)]) (xd DX9_matches rfl) rfl (by decide) rfl rfl rfl ?_
              refine x_goto 26 (xd DX9_matches rfl) rfl ?_
              refine ih (xj + 1) _ (by omega) (by omega) (by omega) ?_
              rw [xp_c (p := MSq h i (h 266 c) ∧ MFs h i c (xj + 1)) (q := (MSq h i (h 266 c) ∧ MFs h i c xj) ∧ h 263 (i + xj) = h 266 (c + 2 + xj) ∧ (xj = h 266 (c + 1) ∨ h 264 (i + xj) = h 266 (c + 6 + xj))) ⟨fun q => ⟨⟨q.1, ((MFs_s h0).mp q.2).1⟩, ((MFs_s h0).mp q.2).2⟩, fun q => ⟨q.1.1, (MFs_s h0).mpr ⟨q.1.2, q.2⟩⟩⟩]
              first | exact xp_t hyes | exact xp_f hno
            · refine x_aload_n 75 (xd DX9_matches rfl) rfl rfl ?_
              refine x_gr 78 _ LX9_22 (xd DX9_matches rfl) rfl rfl ⟨by decide, by decide⟩ (by decide) rfl rfl ?_
              refine x_iload_n 79 (xd DX9_matches rfl) rfl rfl ?_
              refine x_iload 81 (xd DX9_matches rfl) rfl rfl ?_
              refine x_iadd 82 (xd DX9_matches rfl) rfl ?_
              refine x_iaload 83 (xd DX9_matches rfl) rfl ⟨Or.inr ⟨rfl, by decide⟩, by decide⟩ (by decide) (by omega) (by omega) rfl ?_
              refine x_aload_n 84 (xd DX9_matches rfl) rfl rfl ?_
              refine x_gr 87 _ LX9_28 (xd DX9_matches rfl) rfl rfl ⟨by decide, by decide⟩ (by decide) rfl rfl ?_
              refine x_iload_n 88 (xd DX9_matches rfl) rfl rfl ?_
              refine x_bipush 90 (xd DX9_matches rfl) rfl rfl ?_
              refine x_iadd 91 (xd DX9_matches rfl) rfl ?_
              refine x_iload 93 (xd DX9_matches rfl) rfl rfl ?_
              refine x_iadd 94 (xd DX9_matches rfl) rfl ?_
              refine x_iaload 95 (xd DX9_matches rfl) rfl ⟨Or.inr ⟨rfl, by decide⟩, by decide⟩ (by decide) (by omega) (by omega) rfl ?_
              refine x_icmp_ne 98 102 (xd DX9_matches rfl) rfl (by omega) (by omega) rfl (fun c95 => ?_) (fun c95 => ?_)
              · have hno : ¬ ((MSq h i (h 266 c) ∧ MFs h i c xj) ∧ h 263 (i + xj) = h 266 (c + 2 + xj) ∧ (xj = h 266 (c + 1) ∨ h 264 (i + xj) = h 266 (c + 6 + xj))) := fun q => q.2.2.elim c71 c95
                refine x_iconst 103 (xd DX9_matches rfl) rfl ?_
                refine x_istore 105 (L' := [(0, _), (1, _), (2, _), (3, _), (4, _), (5, _), (6, _)]) (xd DX9_matches rfl) (by decide) rfl rfl rfl ?_
                refine x_iinc 108 (L' := [(0, _), (1, _), (2, _), (3, _), (4, _), (5, _), (6, _)]) (xd DX9_matches rfl) rfl (by decide) rfl rfl rfl ?_
                refine x_goto 26 (xd DX9_matches rfl) rfl ?_
                refine ih (xj + 1) _ (by omega) (by omega) (by omega) ?_
                rw [xp_c (p := MSq h i (h 266 c) ∧ MFs h i c (xj + 1)) (q := (MSq h i (h 266 c) ∧ MFs h i c xj) ∧ h 263 (i + xj) = h 266 (c + 2 + xj) ∧ (xj = h 266 (c + 1) ∨ h 264 (i + xj) = h 266 (c + 6 + xj))) ⟨fun q => ⟨⟨q.1, ((MFs_s h0).mp q.2).1⟩, ((MFs_s h0).mp q.2).2⟩, fun q => ⟨q.1.1, (MFs_s h0).mpr ⟨q.1.2, q.2⟩⟩⟩]
                first | exact xp_t hyes | exact xp_f hno
              · have hyes : (MSq h i (h 266 c) ∧ MFs h i c xj) ∧ h 263 (i + xj) = h 266 (c + 2 + xj) ∧ (xj = h 266 (c + 1) ∨ h 264 (i + xj) = h 266 (c + 6 + xj)) := ⟨hy1, c58, Or.inr c95⟩
                refine x_iconst 99 (xd DX9_matches rfl) rfl ?_
                refine x_goto 103 (xd DX9_matches rfl) rfl ?_
                refine x_istore 105 (L' := [(0, _), (1, _), (2, _), (3, _), (4, _), (5, _), (6, _)]) (xd DX9_matches rfl) (by decide) rfl rfl rfl ?_
                refine x_iinc 108 (L' := [(0, _), (1, _), (2, _), (3, _), (4, _), (5, _), (6, _)]) (xd DX9_matches rfl) rfl (by decide) rfl rfl rfl ?_
                refine x_goto 26 (xd DX9_matches rfl) rfl ?_
                refine ih (xj + 1) _ (by omega) (by omega) (by omega) ?_
                rw [xp_c (p := MSq h i (h 266 c) ∧ MFs h i c (xj + 1)) (q := (MSq h i (h 266 c) ∧ MFs h i c xj) ∧ h 263 (i + xj) = h 266 (c + 2 + xj) ∧ (xj = h 266 (c + 1) ∨ h 264 (i + xj) = h 266 (c + 6 + xj))) ⟨fun q => ⟨⟨q.1, ((MFs_s h0).mp q.2).1⟩, ((MFs_s h0).mp q.2).2⟩, fun q => ⟨q.1.1, (MFs_s h0).mpr ⟨q.1.2, q.2⟩⟩⟩]
                first | exact xp_t hyes | exact xp_f hno
  refine x_aload_n 1 (xd DX9_matches rfl) rfl rfl ?_
  refine x_iload_n 2 (xd DX9_matches rfl) rfl rfl ?_
  refine x_Vi 5 (pX9_entryAt e (by omega)) FX9_entryAt VX9_entryAt CX9_116 (xd DX9_matches rfl) rfl rfl rfl ⟨by decide, rfl⟩ ⟨by decide, by decide⟩ (by decide) (Nat.le_of_ble_eq_true rfl) (by decide) rfl ?_
  rintro z9 h9 ⟨q1, q2⟩
  rw [q1, q2]
  clear q1 q2 z9 h9
  refine x_istore_n 6 (L' := [(0, _), (1, _), (2, _), (3, _)]) (xd DX9_matches rfl) (by decide) rfl rfl rfl ?_
  refine x_aload_n 7 (xd DX9_matches rfl) rfl rfl ?_
  refine x_gr 10 _ LX9_28 (xd DX9_matches rfl) rfl rfl ⟨by decide, by decide⟩ (by decide) rfl rfl ?_
  refine x_iload_n 11 (xd DX9_matches rfl) rfl rfl ?_
  refine x_iaload 12 (xd DX9_matches rfl) rfl ⟨Or.inr ⟨rfl, by decide⟩, by decide⟩ (by decide) (by omega) (by omega) rfl ?_
  refine x_istore 14 (L' := [(0, _), (1, _), (2, _), (3, _), (4, _)]) (xd DX9_matches rfl) (by decide) rfl rfl rfl ?_
  refine x_aload_n 15 (xd DX9_matches rfl) rfl rfl ?_
  refine x_iload_n 16 (xd DX9_matches rfl) rfl rfl ?_
  refine x_iload 18 (xd DX9_matches rfl) rfl rfl ?_
  refine x_Vi 21 (pX9_isSequence i (h 266 (mEnt e)) (by omega) (by omega) hP.1 hT.1 (fun j a b => ⟨(hP.2 j a b).1, (hP.2 j a b).2.2⟩)) FX9_isSequence VX9_isSequence CX9_119 (xd DX9_matches rfl) rfl rfl rfl ⟨by decide, rfl⟩ ⟨by decide, by decide⟩ (by decide) (Nat.le_of_ble_eq_true rfl) (by decide) rfl ?_
  rintro z9 h9 ⟨q1, q2⟩
  rw [q1, q2]
  clear q1 q2 z9 h9
  refine x_istore 23 (L' := [(0, _), (1, _), (2, _), (3, _), (4, _), (5, _)]) (xd DX9_matches rfl) (by decide) rfl rfl rfl ?_
  refine x_iconst 24 (xd DX9_matches rfl) rfl ?_
  refine x_istore 26 (L' := [(0, _), (1, _), (2, _), (3, _), (4, _), (5, _), (6, _)]) (xd DX9_matches rfl) (by decide) rfl rfl rfl ?_
  exact loop (mEnt e) rfl hc1 hm 100 0 _ (by omega) (by omega) (by omega) (xp_c ⟨fun q => ⟨q, fun x a b => absurd b (by omega)⟩, fun q => q.1⟩)
end
