/-- a private method of a class that the tables say can be made, by its rows of tables_1 -/
def lw_okq (q : MethodName × Nat) : Prop := (q.1.cls ≠ "java/lang/invoke/MethodHandle" ∧ q.1.cls ≠ "java/lang/invoke/VarHandle") ∧ Cond.instantiable q.1.cls q.2 ∈ tables_1 ∧ Cond.privateMethod q.1 ∈ tables_1 ∧ Cond.instanceMethod q.1 ∈ tables_1
theorem lw_p0 : lw_okq (⟨"LooksServed", "error", "(I)I"⟩, 11) := ⟨⟨by decide +kernel, by decide +kernel⟩, List.mem_of_getElem? (i := 18) (by decide +kernel), List.mem_of_getElem? (i := 233) (by decide +kernel), List.mem_of_getElem? (i := 234) (by decide +kernel)⟩
theorem lw_p1 : lw_okq (⟨"LooksServed", "isDiner", "(I)Z"⟩, 11) := ⟨⟨by decide +kernel, by decide +kernel⟩, List.mem_of_getElem? (i := 18) (by decide +kernel), List.mem_of_getElem? (i := 254) (by decide +kernel), List.mem_of_getElem? (i := 255) (by decide +kernel)⟩
theorem lw_p2 : lw_okq (⟨"LooksServed$Reader", "readLevel", "(II)V"⟩, 7) := ⟨⟨by decide +kernel, by decide +kernel⟩, List.mem_of_getElem? (i := 113) (by decide +kernel), List.mem_of_getElem? (i := 310) (by decide +kernel), List.mem_of_getElem? (i := 311) (by decide +kernel)⟩
theorem lw_p3 : lw_okq (⟨"LooksServed$Reader", "readQ", "(I)V"⟩, 7) := ⟨⟨by decide +kernel, by decide +kernel⟩, List.mem_of_getElem? (i := 113) (by decide +kernel), List.mem_of_getElem? (i := 314) (by decide +kernel), List.mem_of_getElem? (i := 315) (by decide +kernel)⟩
theorem lw_p4 : lw_okq (⟨"LooksServed$Reader", "here", "()I"⟩, 7) := ⟨⟨by decide +kernel, by decide +kernel⟩, List.mem_of_getElem? (i := 113) (by decide +kernel), List.mem_of_getElem? (i := 318) (by decide +kernel), List.mem_of_getElem? (i := 319) (by decide +kernel)⟩
theorem lw_p5 : lw_okq (⟨"LooksServed$Reader", "readNumber", "()V"⟩, 7) := ⟨⟨by decide +kernel, by decide +kernel⟩, List.mem_of_getElem? (i := 113) (by decide +kernel), List.mem_of_getElem? (i := 409) (by decide +kernel), List.mem_of_getElem? (i := 410) (by decide +kernel)⟩
theorem lw_p6 : lw_okq (⟨"LooksServed$Reader", "add", "(I)V"⟩, 7) := ⟨⟨by decide +kernel, by decide +kernel⟩, List.mem_of_getElem? (i := 113) (by decide +kernel), List.mem_of_getElem? (i := 413) (by decide +kernel), List.mem_of_getElem? (i := 414) (by decide +kernel)⟩
theorem lw_p7 : lw_okq (⟨"LooksServed$Reader", "pass", "(Ljava/lang/String;)I"⟩, 7) := ⟨⟨by decide +kernel, by decide +kernel⟩, List.mem_of_getElem? (i := 113) (by decide +kernel), List.mem_of_getElem? (i := 418) (by decide +kernel), List.mem_of_getElem? (i := 419) (by decide +kernel)⟩
theorem lw_p8 : lw_okq (⟨"LooksServed$Reader", "fail", "()V"⟩, 7) := ⟨⟨by decide +kernel, by decide +kernel⟩, List.mem_of_getElem? (i := 113) (by decide +kernel), List.mem_of_getElem? (i := 422) (by decide +kernel), List.mem_of_getElem? (i := 423) (by decide +kernel)⟩
theorem lw_p9 : lw_okq (⟨"LooksServed$Table", "pass", "(IZ)V"⟩, 13) := ⟨⟨by decide +kernel, by decide +kernel⟩, List.mem_of_getElem? (i := 26) (by decide +kernel), List.mem_of_getElem? (i := 498) (by decide +kernel), List.mem_of_getElem? (i := 499) (by decide +kernel)⟩
theorem lw_p10 : lw_okq (⟨"LooksServed$Table", "grows", "(I)I"⟩, 13) := ⟨⟨by decide +kernel, by decide +kernel⟩, List.mem_of_getElem? (i := 26) (by decide +kernel), List.mem_of_getElem? (i := 504) (by decide +kernel), List.mem_of_getElem? (i := 505) (by decide +kernel)⟩
theorem lw_p11 : lw_okq (⟨"LooksServed", "drawSham", "()V"⟩, 11) := ⟨⟨by decide +kernel, by decide +kernel⟩, List.mem_of_getElem? (i := 18) (by decide +kernel), List.mem_of_getElem? (i := 517) (by decide +kernel), List.mem_of_getElem? (i := 518) (by decide +kernel)⟩
theorem lw_p12 : lw_okq (⟨"LooksServed", "think", "()LLooksServed$Table;"⟩, 11) := ⟨⟨by decide +kernel, by decide +kernel⟩, List.mem_of_getElem? (i := 18) (by decide +kernel), List.mem_of_getElem? (i := 537) (by decide +kernel), List.mem_of_getElem? (i := 538) (by decide +kernel)⟩
theorem lw_p13 : lw_okq (⟨"LooksServed", "haveMore", "(LLooksServed$Table;I)Z"⟩, 11) := ⟨⟨by decide +kernel, by decide +kernel⟩, List.mem_of_getElem? (i := 18) (by decide +kernel), List.mem_of_getElem? (i := 574) (by decide +kernel), List.mem_of_getElem? (i := 575) (by decide +kernel)⟩
theorem lw_p14 : lw_okq (⟨"LooksServed", "stepsToldRightly", "(LLooksServed$Sheet;I)I"⟩, 11) := ⟨⟨by decide +kernel, by decide +kernel⟩, List.mem_of_getElem? (i := 18) (by decide +kernel), List.mem_of_getElem? (i := 583) (by decide +kernel), List.mem_of_getElem? (i := 584) (by decide +kernel)⟩
theorem lw_p15 : lw_okq (⟨"LooksServedModel", "becomes", "(II)I"⟩, 25) := ⟨⟨by decide +kernel, by decide +kernel⟩, List.mem_of_getElem? (i := 719) (by decide +kernel), List.mem_of_getElem? (i := 808) (by decide +kernel), List.mem_of_getElem? (i := 809) (by decide +kernel)⟩
def lw_privs_1 : List (MethodName × Nat) := [(⟨"LooksServed", "error", "(I)I"⟩, 11), (⟨"LooksServed", "isDiner", "(I)Z"⟩, 11), (⟨"LooksServed$Reader", "readLevel", "(II)V"⟩, 7), (⟨"LooksServed$Reader", "readQ", "(I)V"⟩, 7), (⟨"LooksServed$Reader", "here", "()I"⟩, 7), (⟨"LooksServed$Reader", "readNumber", "()V"⟩, 7), (⟨"LooksServed$Reader", "add", "(I)V"⟩, 7), (⟨"LooksServed$Reader", "pass", "(Ljava/lang/String;)I"⟩, 7), (⟨"LooksServed$Reader", "fail", "()V"⟩, 7), (⟨"LooksServed$Table", "pass", "(IZ)V"⟩, 13), (⟨"LooksServed$Table", "grows", "(I)I"⟩, 13), (⟨"LooksServed", "drawSham", "()V"⟩, 11), (⟨"LooksServed", "think", "()LLooksServed$Table;"⟩, 11), (⟨"LooksServed", "haveMore", "(LLooksServed$Table;I)Z"⟩, 11), (⟨"LooksServed", "stepsToldRightly", "(LLooksServed$Sheet;I)I"⟩, 11), (⟨"LooksServedModel", "becomes", "(II)I"⟩, 25)]
theorem lw_r1 : ∀ q ∈ lw_privs_1, lw_okq q := List.forall_mem_cons.mpr ⟨lw_p0, List.forall_mem_cons.mpr ⟨lw_p1, List.forall_mem_cons.mpr ⟨lw_p2, List.forall_mem_cons.mpr ⟨lw_p3, List.forall_mem_cons.mpr ⟨lw_p4, List.forall_mem_cons.mpr ⟨lw_p5, List.forall_mem_cons.mpr ⟨lw_p6, List.forall_mem_cons.mpr ⟨lw_p7, List.forall_mem_cons.mpr ⟨lw_p8, List.forall_mem_cons.mpr ⟨lw_p9, List.forall_mem_cons.mpr ⟨lw_p10, List.forall_mem_cons.mpr ⟨lw_p11, List.forall_mem_cons.mpr ⟨lw_p12, List.forall_mem_cons.mpr ⟨lw_p13, List.forall_mem_cons.mpr ⟨lw_p14, List.forall_mem_cons.mpr ⟨lw_p15, fun _ h => absurd h List.not_mem_nil⟩⟩⟩⟩⟩⟩⟩⟩⟩⟩⟩⟩⟩⟩⟩⟩
theorem lw_p16 : lw_okq (⟨"LooksServedModel", "errs", "(I)I"⟩, 25) := ⟨⟨by decide +kernel, by decide +kernel⟩, List.mem_of_getElem? (i := 719) (by decide +kernel), List.mem_of_getElem? (i := 813) (by decide +kernel), List.mem_of_getElem? (i := 814) (by decide +kernel)⟩
theorem lw_p17 : lw_okq (⟨"LooksServedModel", "gets", "(III)V"⟩, 25) := ⟨⟨by decide +kernel, by decide +kernel⟩, List.mem_of_getElem? (i := 719) (by decide +kernel), List.mem_of_getElem? (i := 831) (by decide +kernel), List.mem_of_getElem? (i := 832) (by decide +kernel)⟩
theorem lw_p18 : lw_okq (⟨"LooksServedModel", "isDiner", "(I)Z"⟩, 25) := ⟨⟨by decide +kernel, by decide +kernel⟩, List.mem_of_getElem? (i := 719) (by decide +kernel), List.mem_of_getElem? (i := 839) (by decide +kernel), List.mem_of_getElem? (i := 840) (by decide +kernel)⟩
theorem lw_p19 : lw_okq (⟨"LooksServedModel", "its", "(II)I"⟩, 25) := ⟨⟨by decide +kernel, by decide +kernel⟩, List.mem_of_getElem? (i := 719) (by decide +kernel), List.mem_of_getElem? (i := 843) (by decide +kernel), List.mem_of_getElem? (i := 844) (by decide +kernel)⟩
theorem lw_p20 : lw_okq (⟨"LooksServedModel", "face", "(I)I"⟩, 25) := ⟨⟨by decide +kernel, by decide +kernel⟩, List.mem_of_getElem? (i := 719) (by decide +kernel), List.mem_of_getElem? (i := 847) (by decide +kernel), List.mem_of_getElem? (i := 848) (by decide +kernel)⟩
theorem lw_p21 : lw_okq (⟨"LooksServedModel", "lawOf", "(IIII)I"⟩, 25) := ⟨⟨by decide +kernel, by decide +kernel⟩, List.mem_of_getElem? (i := 719) (by decide +kernel), List.mem_of_getElem? (i := 851) (by decide +kernel), List.mem_of_getElem? (i := 852) (by decide +kernel)⟩
theorem lw_p22 : lw_okq (⟨"LooksServedModel", "walks", "(IIII)I"⟩, 25) := ⟨⟨by decide +kernel, by decide +kernel⟩, List.mem_of_getElem? (i := 719) (by decide +kernel), List.mem_of_getElem? (i := 855) (by decide +kernel), List.mem_of_getElem? (i := 856) (by decide +kernel)⟩
theorem lw_p23 : lw_okq (⟨"LooksServedModel", "whole", "()I"⟩, 25) := ⟨⟨by decide +kernel, by decide +kernel⟩, List.mem_of_getElem? (i := 719) (by decide +kernel), List.mem_of_getElem? (i := 859) (by decide +kernel), List.mem_of_getElem? (i := 860) (by decide +kernel)⟩
theorem lw_p24 : lw_okq (⟨"LooksServedModel", "both", "()I"⟩, 25) := ⟨⟨by decide +kernel, by decide +kernel⟩, List.mem_of_getElem? (i := 719) (by decide +kernel), List.mem_of_getElem? (i := 863) (by decide +kernel), List.mem_of_getElem? (i := 864) (by decide +kernel)⟩
theorem lw_p25 : lw_okq (⟨"LooksServedModel", "compared", "()I"⟩, 25) := ⟨⟨by decide +kernel, by decide +kernel⟩, List.mem_of_getElem? (i := 719) (by decide +kernel), List.mem_of_getElem? (i := 867) (by decide +kernel), List.mem_of_getElem? (i := 868) (by decide +kernel)⟩
theorem lw_p26 : lw_okq (⟨"LooksServedModel", "sum", "()I"⟩, 25) := ⟨⟨by decide +kernel, by decide +kernel⟩, List.mem_of_getElem? (i := 719) (by decide +kernel), List.mem_of_getElem? (i := 871) (by decide +kernel), List.mem_of_getElem? (i := 872) (by decide +kernel)⟩
theorem lw_p27 : lw_okq (⟨"LooksServedModel", "product", "()I"⟩, 25) := ⟨⟨by decide +kernel, by decide +kernel⟩, List.mem_of_getElem? (i := 719) (by decide +kernel), List.mem_of_getElem? (i := 875) (by decide +kernel), List.mem_of_getElem? (i := 876) (by decide +kernel)⟩
theorem lw_p28 : lw_okq (⟨"LooksServedModel", "factor", "()I"⟩, 25) := ⟨⟨by decide +kernel, by decide +kernel⟩, List.mem_of_getElem? (i := 719) (by decide +kernel), List.mem_of_getElem? (i := 879) (by decide +kernel), List.mem_of_getElem? (i := 880) (by decide +kernel)⟩
theorem lw_p29 : lw_okq (⟨"LooksServedModel", "byteAt", "(I)I"⟩, 25) := ⟨⟨by decide +kernel, by decide +kernel⟩, List.mem_of_getElem? (i := 719) (by decide +kernel), List.mem_of_getElem? (i := 883) (by decide +kernel), List.mem_of_getElem? (i := 884) (by decide +kernel)⟩
theorem lw_p30 : lw_okq (⟨"LooksServedModel", "number", "()I"⟩, 25) := ⟨⟨by decide +kernel, by decide +kernel⟩, List.mem_of_getElem? (i := 719) (by decide +kernel), List.mem_of_getElem? (i := 890) (by decide +kernel), List.mem_of_getElem? (i := 891) (by decide +kernel)⟩
theorem lw_p31 : lw_okq (⟨"LooksServedModel", "named", "(I)I"⟩, 25) := ⟨⟨by decide +kernel, by decide +kernel⟩, List.mem_of_getElem? (i := 719) (by decide +kernel), List.mem_of_getElem? (i := 894) (by decide +kernel), List.mem_of_getElem? (i := 895) (by decide +kernel)⟩
def lw_privs_2 : List (MethodName × Nat) := [(⟨"LooksServedModel", "errs", "(I)I"⟩, 25), (⟨"LooksServedModel", "gets", "(III)V"⟩, 25), (⟨"LooksServedModel", "isDiner", "(I)Z"⟩, 25), (⟨"LooksServedModel", "its", "(II)I"⟩, 25), (⟨"LooksServedModel", "face", "(I)I"⟩, 25), (⟨"LooksServedModel", "lawOf", "(IIII)I"⟩, 25), (⟨"LooksServedModel", "walks", "(IIII)I"⟩, 25), (⟨"LooksServedModel", "whole", "()I"⟩, 25), (⟨"LooksServedModel", "both", "()I"⟩, 25), (⟨"LooksServedModel", "compared", "()I"⟩, 25), (⟨"LooksServedModel", "sum", "()I"⟩, 25), (⟨"LooksServedModel", "product", "()I"⟩, 25), (⟨"LooksServedModel", "factor", "()I"⟩, 25), (⟨"LooksServedModel", "byteAt", "(I)I"⟩, 25), (⟨"LooksServedModel", "number", "()I"⟩, 25), (⟨"LooksServedModel", "named", "(I)I"⟩, 25)]
theorem lw_r2 : ∀ q ∈ lw_privs_2, lw_okq q := List.forall_mem_cons.mpr ⟨lw_p16, List.forall_mem_cons.mpr ⟨lw_p17, List.forall_mem_cons.mpr ⟨lw_p18, List.forall_mem_cons.mpr ⟨lw_p19, List.forall_mem_cons.mpr ⟨lw_p20, List.forall_mem_cons.mpr ⟨lw_p21, List.forall_mem_cons.mpr ⟨lw_p22, List.forall_mem_cons.mpr ⟨lw_p23, List.forall_mem_cons.mpr ⟨lw_p24, List.forall_mem_cons.mpr ⟨lw_p25, List.forall_mem_cons.mpr ⟨lw_p26, List.forall_mem_cons.mpr ⟨lw_p27, List.forall_mem_cons.mpr ⟨lw_p28, List.forall_mem_cons.mpr ⟨lw_p29, List.forall_mem_cons.mpr ⟨lw_p30, List.forall_mem_cons.mpr ⟨lw_p31, fun _ h => absurd h List.not_mem_nil⟩⟩⟩⟩⟩⟩⟩⟩⟩⟩⟩⟩⟩⟩⟩⟩
theorem lw_p32 : lw_okq (⟨"LooksServedModel", "fails", "()I"⟩, 25) := ⟨⟨by decide +kernel, by decide +kernel⟩, List.mem_of_getElem? (i := 719) (by decide +kernel), List.mem_of_getElem? (i := 898) (by decide +kernel), List.mem_of_getElem? (i := 899) (by decide +kernel)⟩
theorem lw_p33 : lw_okq (⟨"LooksServedModel", "moveAll", "([I[I)V"⟩, 25) := ⟨⟨by decide +kernel, by decide +kernel⟩, List.mem_of_getElem? (i := 719) (by decide +kernel), List.mem_of_getElem? (i := 934) (by decide +kernel), List.mem_of_getElem? (i := 935) (by decide +kernel)⟩
theorem lw_p34 : lw_okq (⟨"LooksServedModel", "passes", "(I)V"⟩, 25) := ⟨⟨by decide +kernel, by decide +kernel⟩, List.mem_of_getElem? (i := 719) (by decide +kernel), List.mem_of_getElem? (i := 943) (by decide +kernel), List.mem_of_getElem? (i := 944) (by decide +kernel)⟩
theorem lw_p35 : lw_okq (⟨"LooksServedModel", "oneStep", "()V"⟩, 25) := ⟨⟨by decide +kernel, by decide +kernel⟩, List.mem_of_getElem? (i := 719) (by decide +kernel), List.mem_of_getElem? (i := 947) (by decide +kernel), List.mem_of_getElem? (i := 948) (by decide +kernel)⟩
theorem lw_p36 : lw_okq (⟨"LooksServedModel", "served", "()I"⟩, 25) := ⟨⟨by decide +kernel, by decide +kernel⟩, List.mem_of_getElem? (i := 719) (by decide +kernel), List.mem_of_getElem? (i := 951) (by decide +kernel), List.mem_of_getElem? (i := 952) (by decide +kernel)⟩
theorem lw_p37 : lw_okq (⟨"LooksServedModel", "ahead", "(I)I"⟩, 25) := ⟨⟨by decide +kernel, by decide +kernel⟩, List.mem_of_getElem? (i := 719) (by decide +kernel), List.mem_of_getElem? (i := 955) (by decide +kernel), List.mem_of_getElem? (i := 956) (by decide +kernel)⟩
theorem lw_p38 : lw_okq (⟨"LooksServedModel", "sits", "(IZ)V"⟩, 25) := ⟨⟨by decide +kernel, by decide +kernel⟩, List.mem_of_getElem? (i := 719) (by decide +kernel), List.mem_of_getElem? (i := 959) (by decide +kernel), List.mem_of_getElem? (i := 960) (by decide +kernel)⟩
theorem lw_p39 : lw_okq (⟨"LooksServedModel", "grows", "(I)I"⟩, 25) := ⟨⟨by decide +kernel, by decide +kernel⟩, List.mem_of_getElem? (i := 719) (by decide +kernel), List.mem_of_getElem? (i := 963) (by decide +kernel), List.mem_of_getElem? (i := 964) (by decide +kernel)⟩
theorem lw_p40 : lw_okq (⟨"LooksServedModel", "sumOf", "(I)I"⟩, 25) := ⟨⟨by decide +kernel, by decide +kernel⟩, List.mem_of_getElem? (i := 719) (by decide +kernel), List.mem_of_getElem? (i := 967) (by decide +kernel), List.mem_of_getElem? (i := 968) (by decide +kernel)⟩
theorem lw_p41 : lw_okq (⟨"LooksServedModel", "drawn", "()I"⟩, 25) := ⟨⟨by decide +kernel, by decide +kernel⟩, List.mem_of_getElem? (i := 719) (by decide +kernel), List.mem_of_getElem? (i := 975) (by decide +kernel), List.mem_of_getElem? (i := 976) (by decide +kernel)⟩
theorem lw_p42 : lw_okq (⟨"LooksServedModel", "fed", "(III)I"⟩, 25) := ⟨⟨by decide +kernel, by decide +kernel⟩, List.mem_of_getElem? (i := 719) (by decide +kernel), List.mem_of_getElem? (i := 997) (by decide +kernel), List.mem_of_getElem? (i := 998) (by decide +kernel)⟩
theorem lw_p43 : lw_okq (⟨"LooksServedModel", "moreThan", "([I)I"⟩, 25) := ⟨⟨by decide +kernel, by decide +kernel⟩, List.mem_of_getElem? (i := 719) (by decide +kernel), List.mem_of_getElem? (i := 1001) (by decide +kernel), List.mem_of_getElem? (i := 1002) (by decide +kernel)⟩
theorem lw_p44 : lw_okq (⟨"LooksServedModel", "leastSham", "(II)I"⟩, 25) := ⟨⟨by decide +kernel, by decide +kernel⟩, List.mem_of_getElem? (i := 719) (by decide +kernel), List.mem_of_getElem? (i := 1009) (by decide +kernel), List.mem_of_getElem? (i := 1010) (by decide +kernel)⟩
theorem lw_p45 : lw_okq (⟨"LooksServedModel", "isSoFor", "(I)I"⟩, 25) := ⟨⟨by decide +kernel, by decide +kernel⟩, List.mem_of_getElem? (i := 719) (by decide +kernel), List.mem_of_getElem? (i := 1024) (by decide +kernel), List.mem_of_getElem? (i := 1025) (by decide +kernel)⟩
theorem lw_p46 : lw_okq (⟨"LooksServedModel", "looksIn", "(II)I"⟩, 25) := ⟨⟨by decide +kernel, by decide +kernel⟩, List.mem_of_getElem? (i := 719) (by decide +kernel), List.mem_of_getElem? (i := 1063) (by decide +kernel), List.mem_of_getElem? (i := 1064) (by decide +kernel)⟩
theorem lw_p47 : lw_okq (⟨"LooksServedModel", "ran", "(I)V"⟩, 25) := ⟨⟨by decide +kernel, by decide +kernel⟩, List.mem_of_getElem? (i := 719) (by decide +kernel), List.mem_of_getElem? (i := 1067) (by decide +kernel), List.mem_of_getElem? (i := 1068) (by decide +kernel)⟩
def lw_privs_3 : List (MethodName × Nat) := [(⟨"LooksServedModel", "fails", "()I"⟩, 25), (⟨"LooksServedModel", "moveAll", "([I[I)V"⟩, 25), (⟨"LooksServedModel", "passes", "(I)V"⟩, 25), (⟨"LooksServedModel", "oneStep", "()V"⟩, 25), (⟨"LooksServedModel", "served", "()I"⟩, 25), (⟨"LooksServedModel", "ahead", "(I)I"⟩, 25), (⟨"LooksServedModel", "sits", "(IZ)V"⟩, 25), (⟨"LooksServedModel", "grows", "(I)I"⟩, 25), (⟨"LooksServedModel", "sumOf", "(I)I"⟩, 25), (⟨"LooksServedModel", "drawn", "()I"⟩, 25), (⟨"LooksServedModel", "fed", "(III)I"⟩, 25), (⟨"LooksServedModel", "moreThan", "([I)I"⟩, 25), (⟨"LooksServedModel", "leastSham", "(II)I"⟩, 25), (⟨"LooksServedModel", "isSoFor", "(I)I"⟩, 25), (⟨"LooksServedModel", "looksIn", "(II)I"⟩, 25), (⟨"LooksServedModel", "ran", "(I)V"⟩, 25)]
theorem lw_r3 : ∀ q ∈ lw_privs_3, lw_okq q := List.forall_mem_cons.mpr ⟨lw_p32, List.forall_mem_cons.mpr ⟨lw_p33, List.forall_mem_cons.mpr ⟨lw_p34, List.forall_mem_cons.mpr ⟨lw_p35, List.forall_mem_cons.mpr ⟨lw_p36, List.forall_mem_cons.mpr ⟨lw_p37, List.forall_mem_cons.mpr ⟨lw_p38, List.forall_mem_cons.mpr ⟨lw_p39, List.forall_mem_cons.mpr ⟨lw_p40, List.forall_mem_cons.mpr ⟨lw_p41, List.forall_mem_cons.mpr ⟨lw_p42, List.forall_mem_cons.mpr ⟨lw_p43, List.forall_mem_cons.mpr ⟨lw_p44, List.forall_mem_cons.mpr ⟨lw_p45, List.forall_mem_cons.mpr ⟨lw_p46, List.forall_mem_cons.mpr ⟨lw_p47, fun _ h => absurd h List.not_mem_nil⟩⟩⟩⟩⟩⟩⟩⟩⟩⟩⟩⟩⟩⟩⟩⟩
theorem lw_p48 : lw_okq (⟨"LooksServedModel", "eatsIn", "(II)I"⟩, 25) := ⟨⟨by decide +kernel, by decide +kernel⟩, List.mem_of_getElem? (i := 719) (by decide +kernel), List.mem_of_getElem? (i := 1071) (by decide +kernel), List.mem_of_getElem? (i := 1072) (by decide +kernel)⟩
theorem lw_p49 : lw_okq (⟨"LooksServedModel", "waitsIn", "(II)I"⟩, 25) := ⟨⟨by decide +kernel, by decide +kernel⟩, List.mem_of_getElem? (i := 719) (by decide +kernel), List.mem_of_getElem? (i := 1075) (by decide +kernel), List.mem_of_getElem? (i := 1076) (by decide +kernel)⟩
theorem lw_p50 : lw_okq (⟨"LooksServedModel", "tellsIn", "(II)I"⟩, 25) := ⟨⟨by decide +kernel, by decide +kernel⟩, List.mem_of_getElem? (i := 719) (by decide +kernel), List.mem_of_getElem? (i := 1079) (by decide +kernel), List.mem_of_getElem? (i := 1080) (by decide +kernel)⟩
def lw_privs_4 : List (MethodName × Nat) := [(⟨"LooksServedModel", "eatsIn", "(II)I"⟩, 25), (⟨"LooksServedModel", "waitsIn", "(II)I"⟩, 25), (⟨"LooksServedModel", "tellsIn", "(II)I"⟩, 25)]
theorem lw_r4 : ∀ q ∈ lw_privs_4, lw_okq q := List.forall_mem_cons.mpr ⟨lw_p48, List.forall_mem_cons.mpr ⟨lw_p49, List.forall_mem_cons.mpr ⟨lw_p50, fun _ h => absurd h List.not_mem_nil⟩⟩⟩
def lw_privs : List (MethodName × Nat) := lw_privs_1 ++ (lw_privs_2 ++ (lw_privs_3 ++ (lw_privs_4)))
def lw_tbl : List Cond := k2_sels lw_privs ++ tables_1
theorem lw_privs_ok : ∀ q ∈ lw_privs, lw_okq q := by
  show ∀ q ∈ lw_privs_1 ++ (lw_privs_2 ++ (lw_privs_3 ++ (lw_privs_4))), lw_okq q
  exact List.forall_mem_append.mpr ⟨lw_r1, List.forall_mem_append.mpr ⟨lw_r2, List.forall_mem_append.mpr ⟨lw_r3, lw_r4⟩⟩⟩
def RX0 : String := "LooksServed$Desk"
def TX0 : u_T := fun k => match k with
  | 0 => ("LooksServed$Desk", "z", "I", false)
  | 1 => ("LooksServed$Desk", "tape", "[I", true)
  | 2 => ("LooksServed$Desk", "fed", "I", false)
  | 3 => ("LooksServed$Desk", "waiting", "[I", true)
  | _ => ("LooksServed$Desk", "waits", "I", false)
def tyX0 : Nat → FieldType := fun k => match k with
  | 0 => .int
  | 1 => .array .int
  | 2 => .int
  | 3 => .array .int
  | _ => .int
abbrev wsX00 : List Cond := u_ws RX0 TX0 5
theorem nmX0 : ∀ a, a < 5 → ∀ b, b < 5 → a ≠ b → (TX0 a).2.1 ≠ (TX0 b).2.1 := by decide +kernel
theorem tyX0_ok : ∀ k, k < 5 → parseFieldDescriptor (TX0 k).2.2.1 = some (tyX0 k) := by decide +kernel
abbrev cX0_init : ByteArray := prog_2_method_1_code
def yX0_init : MethodName := ⟨RX0, "<init>", "()V"⟩
abbrev cX0_take : ByteArray := prog_2_method_2_code
def yX0_take : MethodName := ⟨RX0, "take", "(LLooksServed$Desk;)V"⟩
abbrev cX0_draw : ByteArray := prog_2_method_3_code
def yX0_draw : MethodName := ⟨RX0, "draw", "()I"⟩
def RX1 : String := "LooksServed$Law"
def TX1 : u_T := fun k => match k with
  | 0 => ("LooksServed$Law", "codes", "[I", true)
  | _ => ("LooksServed$Law", "worths", "[I", true)
def tyX1 : Nat → FieldType := fun k => match k with
  | 0 => .array .int
  | _ => .array .int
abbrev wsX10 : List Cond := u_ws RX1 TX1 2
theorem nmX1 : ∀ a, a < 2 → ∀ b, b < 2 → a ≠ b → (TX1 a).2.1 ≠ (TX1 b).2.1 := by decide +kernel
theorem tyX1_ok : ∀ k, k < 2 → parseFieldDescriptor (TX1 k).2.2.1 = some (tyX1 k) := by decide +kernel
abbrev cX1_init : ByteArray := prog_3_method_1_code
def yX1_init : MethodName := ⟨RX1, "<init>", "([II)V"⟩
abbrev cX1_worth : ByteArray := prog_3_method_2_code
def yX1_worth : MethodName := ⟨RX1, "worth", "(III)I"⟩
def RX2 : String := "LooksServed$Reader"
def TX2 : u_T := fun k => match k with
  | 0 => ("LooksServed$Reader", "codes", "[I", true)
  | 1 => ("LooksServed$Reader", "size", "I", false)
  | 2 => ("LooksServed$Reader", "tape", "[I", true)
  | 3 => ("LooksServed$Reader", "length", "I", false)
  | 4 => ("LooksServed$Reader", "names", "Ljava/lang/String;", false)
  | 5 => ("LooksServed$Reader", "place", "I", false)
  | _ => ("LooksServed$Reader", "fault", "I", false)
def tyX2 : Nat → FieldType := fun k => match k with
  | 0 => .array .int
  | 1 => .int
  | 2 => .array .int
  | 3 => .int
  | 4 => .object "java/lang/String"
  | 5 => .int
  | _ => .int
abbrev wsX20 : List Cond := u_ws RX2 TX2 7
theorem nmX2 : ∀ a, a < 7 → ∀ b, b < 7 → a ≠ b → (TX2 a).2.1 ≠ (TX2 b).2.1 := by decide +kernel
theorem tyX2_ok : ∀ k, k < 7 → parseFieldDescriptor (TX2 k).2.2.1 = some (tyX2 k) := by decide +kernel
abbrev cX2_init : ByteArray := prog_4_method_1_code
def yX2_init : MethodName := ⟨RX2, "<init>", "([I)V"⟩
abbrev cX2_readTape : ByteArray := prog_4_method_2_code
def yX2_readTape : MethodName := ⟨RX2, "readTape", "(ILjava/lang/String;)I"⟩
abbrev cX2_readLevel : ByteArray := prog_4_method_3_code
def yX2_readLevel : MethodName := ⟨RX2, "readLevel", "(II)V"⟩
abbrev cX2_signsOf : ByteArray := prog_4_method_4_code
def yX2_signsOf : MethodName := ⟨RX2, "signsOf", "(I)Ljava/lang/String;"⟩
abbrev cX2_readQ : ByteArray := prog_4_method_5_code
def yX2_readQ : MethodName := ⟨RX2, "readQ", "(I)V"⟩
abbrev cX2_readNumber : ByteArray := prog_4_method_6_code
def yX2_readNumber : MethodName := ⟨RX2, "readNumber", "()V"⟩
abbrev cX2_isDigit : ByteArray := prog_4_method_7_code
def yX2_isDigit : MethodName := ⟨RX2, "isDigit", "(I)Z"⟩
abbrev cX2_here : ByteArray := prog_4_method_8_code
def yX2_here : MethodName := ⟨RX2, "here", "()I"⟩
abbrev cX2_pass : ByteArray := prog_4_method_9_code
def yX2_pass : MethodName := ⟨RX2, "pass", "(Ljava/lang/String;)I"⟩
abbrev cX2_fail : ByteArray := prog_4_method_10_code
def yX2_fail : MethodName := ⟨RX2, "fail", "()V"⟩
abbrev cX2_add : ByteArray := prog_4_method_11_code
def yX2_add : MethodName := ⟨RX2, "add", "(I)V"⟩
def RX3 : String := "LooksServed$Sheet"
def TX3 : u_T := fun k => match k with
  | 0 => ("LooksServed$Sheet", "bits", "I", false)
  | 1 => ("LooksServed$Sheet", "length", "I", false)
  | _ => ("LooksServed$Sheet", "numbers", "[I", true)
def tyX3 : Nat → FieldType := fun k => match k with
  | 0 => .int
  | 1 => .int
  | _ => .array .int
abbrev wsX30 : List Cond := u_ws RX3 TX3 3
theorem nmX3 : ∀ a, a < 3 → ∀ b, b < 3 → a ≠ b → (TX3 a).2.1 ≠ (TX3 b).2.1 := by decide +kernel
theorem tyX3_ok : ∀ k, k < 3 → parseFieldDescriptor (TX3 k).2.2.1 = some (tyX3 k) := by decide +kernel
abbrev cX3_init : ByteArray := prog_5_method_1_code
def yX3_init : MethodName := ⟨RX3, "<init>", "()V"⟩
abbrev cX3_lay : ByteArray := prog_5_method_2_code
def yX3_lay : MethodName := ⟨RX3, "lay", "(II)V"⟩
abbrev cX3_lowest : ByteArray := prog_5_method_3_code
def yX3_lowest : MethodName := ⟨RX3, "lowest", "(I)I"⟩
abbrev cX3_holds : ByteArray := prog_5_method_4_code
def yX3_holds : MethodName := ⟨RX3, "holds", "(II)Z"⟩
def RX4 : String := "LooksServed$Table"
def TX4 : u_T := fun k => match k with
  | 0 => ("LooksServed$Table", "fill", "[I", true)
  | 1 => ("LooksServed$Table", "kind", "[I", true)
  | 2 => ("LooksServed$Table", "m", "[I", true)
  | 3 => ("LooksServed$Table", "hunger", "[I", true)
  | 4 => ("LooksServed$Table", "sham", "[I", true)
  | 5 => ("LooksServed$Table", "had", "[I", true)
  | 6 => ("LooksServed$Table", "gone", "[Z", true)
  | 7 => ("LooksServed$Table", "faces", "[I", true)
  | 8 => ("LooksServed$Table", "waiters", "I", false)
  | 9 => ("LooksServed$Table", "step", "I", false)
  | 10 => ("LooksServed$Table", "diners", "I", false)
  | 11 => ("LooksServed$Table", "looks", "LLooksServed$Law;", false)
  | _ => ("LooksServed$Table", "bill", "LLooksServed$Law;", false)
def tyX4 : Nat → FieldType := fun k => match k with
  | 0 => .array .int
  | 1 => .array .int
  | 2 => .array .int
  | 3 => .array .int
  | 4 => .array .int
  | 5 => .array .int
  | 6 => .array .boolean
  | 7 => .array .int
  | 8 => .int
  | 9 => .int
  | 10 => .int
  | 11 => .object "LooksServed$Law"
  | _ => .object "LooksServed$Law"
abbrev wsX40 : List Cond := u_ws RX4 TX4 13
theorem nmX4 : ∀ a, a < 13 → ∀ b, b < 13 → a ≠ b → (TX4 a).2.1 ≠ (TX4 b).2.1 := by decide +kernel
theorem tyX4_ok : ∀ k, k < 13 → parseFieldDescriptor (TX4 k).2.2.1 = some (tyX4 k) := by decide +kernel
abbrev cX4_init : ByteArray := prog_6_method_1_code
def yX4_init : MethodName := ⟨RX4, "<init>", "()V"⟩
abbrev cX4_take : ByteArray := prog_6_method_2_code
def yX4_take : MethodName := ⟨RX4, "take", "(LLooksServed$Table;)V"⟩
abbrev cX4_looksBy : ByteArray := prog_6_method_3_code
def yX4_looksBy : MethodName := ⟨RX4, "looksBy", "(III)I"⟩
abbrev cX4_billBy : ByteArray := prog_6_method_4_code
def yX4_billBy : MethodName := ⟨RX4, "billBy", "(III)I"⟩
abbrev cX4_face : ByteArray := prog_6_method_5_code
def yX4_face : MethodName := ⟨RX4, "face", "(I)I"⟩
abbrev cX4_grows : ByteArray := prog_6_method_6_code
def yX4_grows : MethodName := ⟨RX4, "grows", "(I)I"⟩
abbrev cX4_seeFaces : ByteArray := prog_6_method_7_code
def yX4_seeFaces : MethodName := ⟨RX4, "seeFaces", "()V"⟩
abbrev cX4_aheadOf : ByteArray := prog_6_method_8_code
def yX4_aheadOf : MethodName := ⟨RX4, "aheadOf", "(I)I"⟩
abbrev cX4_served : ByteArray := prog_6_method_9_code
def yX4_served : MethodName := ⟨RX4, "served", "()I"⟩
abbrev cX4_serveStep : ByteArray := prog_6_method_10_code
def yX4_serveStep : MethodName := ⟨RX4, "serveStep", "()I"⟩
abbrev cX4_pass : ByteArray := prog_6_method_11_code
def yX4_pass : MethodName := ⟨RX4, "pass", "(IZ)V"⟩
abbrev cX4_goOn : ByteArray := prog_6_method_12_code
def yX4_goOn : MethodName := ⟨RX4, "goOn", "(I)V"⟩
abbrev cX4_stepWithMore : ByteArray := prog_6_method_13_code
def yX4_stepWithMore : MethodName := ⟨RX4, "stepWithMore", "(II)I"⟩
abbrev cX4_isFedBy : ByteArray := prog_6_method_14_code
def yX4_isFedBy : MethodName := ⟨RX4, "isFedBy", "(III)Z"⟩
abbrev cX4_shamAlike : ByteArray := prog_6_method_15_code
def yX4_shamAlike : MethodName := ⟨RX4, "shamAlike", "(II)V"⟩
abbrev cX4_hungerOfAll : ByteArray := prog_6_method_16_code
def yX4_hungerOfAll : MethodName := ⟨RX4, "hungerOfAll", "()I"⟩
abbrev cX4_greatestHunger : ByteArray := prog_6_method_17_code
def yX4_greatestHunger : MethodName := ⟨RX4, "greatestHunger", "()I"⟩
abbrev cX4_hadByAll : ByteArray := prog_6_method_18_code
def yX4_hadByAll : MethodName := ⟨RX4, "hadByAll", "()I"⟩
abbrev cX4_goneOnes : ByteArray := prog_6_method_19_code
def yX4_goneOnes : MethodName := ⟨RX4, "goneOnes", "()I"⟩
def RX5 : String := "LooksServed$Voices"
def TX5 : u_T := fun k => match k with
  | 0 => ("LooksServed$Voices", "number", "I", false)
  | 1 => ("LooksServed$Voices", "m", "I", false)
  | 2 => ("LooksServed$Voices", "kind", "I", false)
  | 3 => ("LooksServed$Voices", "bodies", "[I", true)
  | _ => ("LooksServed$Voices", "begun", "I", false)
def tyX5 : Nat → FieldType := fun k => match k with
  | 0 => .int
  | 1 => .int
  | 2 => .int
  | 3 => .array .int
  | _ => .int
abbrev wsX50 : List Cond := u_ws RX5 TX5 5
theorem nmX5 : ∀ a, a < 5 → ∀ b, b < 5 → a ≠ b → (TX5 a).2.1 ≠ (TX5 b).2.1 := by decide +kernel
theorem tyX5_ok : ∀ k, k < 5 → parseFieldDescriptor (TX5 k).2.2.1 = some (tyX5 k) := by decide +kernel
abbrev cX5_init : ByteArray := prog_7_method_1_code
def yX5_init : MethodName := ⟨RX5, "<init>", "()V"⟩
abbrev cX5_begin : ByteArray := prog_7_method_2_code
def yX5_begin : MethodName := ⟨RX5, "begin", "(I)V"⟩
def RX6 : String := "LooksServed"
def TX6 : u_T := fun k => match k with
  | 0 => ("LooksServed", "now", "LLooksServed$Table;", true)
  | 1 => ("LooksServed", "thought", "LLooksServed$Table;", true)
  | 2 => ("LooksServed", "honest", "LLooksServed$Table;", true)
  | 3 => ("LooksServed", "tableKept", "LLooksServed$Table;", true)
  | 4 => ("LooksServed", "desk", "LLooksServed$Desk;", true)
  | 5 => ("LooksServed", "deskKept", "LLooksServed$Desk;", true)
  | 6 => ("LooksServed", "images", "I", false)
  | 7 => ("LooksServed", "reader", "LLooksServed$Reader;", true)
  | 8 => ("LooksServed", "voices", "LLooksServed$Voices;", true)
  | 9 => ("LooksServed", "sheets", "[LLooksServed$Sheet;", true)
  | _ => ("LooksServed", "errors", "[I", true)
def tyX6 : Nat → FieldType := fun k => match k with
  | 0 => .object "LooksServed$Table"
  | 1 => .object "LooksServed$Table"
  | 2 => .object "LooksServed$Table"
  | 3 => .object "LooksServed$Table"
  | 4 => .object "LooksServed$Desk"
  | 5 => .object "LooksServed$Desk"
  | 6 => .int
  | 7 => .object "LooksServed$Reader"
  | 8 => .object "LooksServed$Voices"
  | 9 => .array (.object "LooksServed$Sheet")
  | _ => .array .int
abbrev wsX60 : List Cond := u_ws RX6 TX6 11
theorem nmX6 : ∀ a, a < 11 → ∀ b, b < 11 → a ≠ b → (TX6 a).2.1 ≠ (TX6 b).2.1 := by decide +kernel
theorem tyX6_ok : ∀ k, k < 11 → parseFieldDescriptor (TX6 k).2.2.1 = some (tyX6 k) := by decide +kernel
abbrev cX6_init : ByteArray := prog_1_method_1_code
def yX6_init : MethodName := ⟨RX6, "<init>", "()V"⟩
abbrev cX6_fills : ByteArray := prog_1_method_2_code
def yX6_fills : MethodName := ⟨RX6, "fills", "(II)I"⟩
abbrev cX6_filling : ByteArray := prog_1_method_3_code
def yX6_filling : MethodName := ⟨RX6, "filling", "(I)I"⟩
abbrev cX6_waiters : ByteArray := prog_1_method_4_code
def yX6_waiters : MethodName := ⟨RX6, "waiters", "(I)I"⟩
abbrev cX6_diner : ByteArray := prog_1_method_5_code
def yX6_diner : MethodName := ⟨RX6, "diner", "(III)I"⟩
abbrev cX6_ofDiner : ByteArray := prog_1_method_6_code
def yX6_ofDiner : MethodName := ⟨RX6, "ofDiner", "(II)I"⟩
abbrev cX6_change : ByteArray := prog_1_method_7_code
def yX6_change : MethodName := ⟨RX6, "change", "(III)I"⟩
abbrev cX6_mostToChangeTo : ByteArray := prog_1_method_8_code
def yX6_mostToChangeTo : MethodName := ⟨RX6, "mostToChangeTo", "(I)I"⟩
abbrev cX6_become : ByteArray := prog_1_method_9_code
def yX6_become : MethodName := ⟨RX6, "become", "(II)I"⟩
abbrev cX6_as : ByteArray := prog_1_method_10_code
def yX6_as : MethodName := ⟨RX6, "as", "(II)I"⟩
abbrev cX6_isUnder : ByteArray := prog_1_method_11_code
def yX6_isUnder : MethodName := ⟨RX6, "isUnder", "(II)Z"⟩
abbrev cX6_feed : ByteArray := prog_1_method_12_code
def yX6_feed : MethodName := ⟨RX6, "feed", "(JI)I"⟩
abbrev cX6_text : ByteArray := prog_1_method_13_code
def yX6_text : MethodName := ⟨RX6, "text", "(I)I"⟩
abbrev cX6_law : ByteArray := prog_1_method_14_code
def yX6_law : MethodName := ⟨RX6, "law", "(IIII)I"⟩
abbrev cX6_steps : ByteArray := prog_1_method_15_code
def yX6_steps : MethodName := ⟨RX6, "steps", "(I)I"⟩
abbrev cX6_loose : ByteArray := prog_1_method_16_code
def yX6_loose : MethodName := ⟨RX6, "loose", "(I)I"⟩
abbrev cX6_drawSham : ByteArray := prog_1_method_17_code
def yX6_drawSham : MethodName := ⟨RX6, "drawSham", "()V"⟩
abbrev cX6_next : ByteArray := prog_1_method_18_code
def yX6_next : MethodName := ⟨RX6, "next", "()I"⟩
abbrev cX6_then : ByteArray := prog_1_method_19_code
def yX6_then : MethodName := ⟨RX6, "then", "(III)I"⟩
abbrev cX6_first : ByteArray := prog_1_method_20_code
def yX6_first : MethodName := ⟨RX6, "first", "(I)I"⟩
abbrev cX6_never : ByteArray := prog_1_method_21_code
def yX6_never : MethodName := ⟨RX6, "never", "()I"⟩
abbrev cX6_sham : ByteArray := prog_1_method_22_code
def yX6_sham : MethodName := ⟨RX6, "sham", "(II)I"⟩
abbrev cX6_alike : ByteArray := prog_1_method_23_code
def yX6_alike : MethodName := ⟨RX6, "alike", "(II)I"⟩
abbrev cX6_haveMore : ByteArray := prog_1_method_24_code
def yX6_haveMore : MethodName := ⟨RX6, "haveMore", "(LLooksServed$Table;I)Z"⟩
abbrev cX6_whose : ByteArray := prog_1_method_25_code
def yX6_whose : MethodName := ⟨RX6, "whose", "(II)I"⟩
abbrev cX6_stepsToldRightly : ByteArray := prog_1_method_26_code
def yX6_stepsToldRightly : MethodName := ⟨RX6, "stepsToldRightly", "(LLooksServed$Sheet;I)I"⟩
abbrev cX6_rank : ByteArray := prog_1_method_27_code
def yX6_rank : MethodName := ⟨RX6, "rank", "(I)I"⟩
abbrev cX6_harm : ByteArray := prog_1_method_28_code
def yX6_harm : MethodName := ⟨RX6, "harm", "(II)I"⟩
abbrev cX6_cramps : ByteArray := prog_1_method_29_code
def yX6_cramps : MethodName := ⟨RX6, "cramps", "(II)I"⟩
abbrev cX6_enough : ByteArray := prog_1_method_30_code
def yX6_enough : MethodName := ⟨RX6, "enough", "(II)I"⟩
abbrev cX6_meals : ByteArray := prog_1_method_31_code
def yX6_meals : MethodName := ⟨RX6, "meals", "(I)I"⟩
abbrev cX6_odds : ByteArray := prog_1_method_32_code
def yX6_odds : MethodName := ⟨RX6, "odds", "(III)I"⟩
abbrev cX6_commonDivisor : ByteArray := prog_1_method_33_code
def yX6_commonDivisor : MethodName := ⟨RX6, "commonDivisor", "(II)I"⟩
abbrev cX6_seed : ByteArray := prog_1_method_34_code
def yX6_seed : MethodName := ⟨RX6, "seed", "(I)I"⟩
abbrev cX6_voice : ByteArray := prog_1_method_35_code
def yX6_voice : MethodName := ⟨RX6, "voice", "(III)I"⟩
abbrev cX6_speak : ByteArray := prog_1_method_36_code
def yX6_speak : MethodName := ⟨RX6, "speak", "(LLooksServed$Voices;IIII)I"⟩
abbrev cX6_ownerOfBody : ByteArray := prog_1_method_37_code
def yX6_ownerOfBody : MethodName := ⟨RX6, "ownerOfBody", "(II)I"⟩
abbrev cX6_trace : ByteArray := prog_1_method_38_code
def yX6_trace : MethodName := ⟨RX6, "trace", "(I)I"⟩
abbrev cX6_sheet : ByteArray := prog_1_method_39_code
def yX6_sheet : MethodName := ⟨RX6, "sheet", "(III)I"⟩
abbrev cX6_put : ByteArray := prog_1_method_40_code
def yX6_put : MethodName := ⟨RX6, "put", "(III)I"⟩
abbrev cX6_move : ByteArray := prog_1_method_41_code
def yX6_move : MethodName := ⟨RX6, "move", "(IIIII)I"⟩
abbrev cX6_shams : ByteArray := prog_1_method_42_code
def yX6_shams : MethodName := ⟨RX6, "shams", "(I)I"⟩
abbrev cX6_judge : ByteArray := prog_1_method_43_code
def yX6_judge : MethodName := ⟨RX6, "judge", "(I)I"⟩
abbrev cX6_image : ByteArray := prog_1_method_44_code
def yX6_image : MethodName := ⟨RX6, "image", "()I"⟩
abbrev cX6_restore : ByteArray := prog_1_method_45_code
def yX6_restore : MethodName := ⟨RX6, "restore", "()I"⟩
abbrev cX6_tell : ByteArray := prog_1_method_46_code
def yX6_tell : MethodName := ⟨RX6, "tell", "(I)I"⟩
abbrev cX6_check : ByteArray := prog_1_method_47_code
def yX6_check : MethodName := ⟨RX6, "check", "()I"⟩
abbrev cX6_count : ByteArray := prog_1_method_48_code
def yX6_count : MethodName := ⟨RX6, "count", "(I)I"⟩
abbrev cX6_told : ByteArray := prog_1_method_49_code
def yX6_told : MethodName := ⟨RX6, "told", "(I)I"⟩
abbrev cX6_error : ByteArray := prog_1_method_50_code
def yX6_error : MethodName := ⟨RX6, "error", "(I)I"⟩
abbrev cX6_within : ByteArray := prog_1_method_51_code
def yX6_within : MethodName := ⟨RX6, "within", "(II)Z"⟩
abbrev cX6_has : ByteArray := prog_1_method_52_code
def yX6_has : MethodName := ⟨RX6, "has", "(II)Z"⟩
abbrev cX6_held : ByteArray := prog_1_method_53_code
def yX6_held : MethodName := ⟨RX6, "held", "(II)I"⟩
abbrev cX6_isDiner : ByteArray := prog_1_method_54_code
def yX6_isDiner : MethodName := ⟨RX6, "isDiner", "(I)Z"⟩
abbrev cX6_think : ByteArray := prog_1_method_55_code
def yX6_think : MethodName := ⟨RX6, "think", "()LLooksServed$Table;"⟩
def RX7 : String := "LooksServedModel"
def TX7 : u_T := fun k => match k with
  | 0 => ("LooksServedModel", "row", "[I", true)
  | 1 => ("LooksServedModel", "kept", "[I", true)
  | 2 => ("LooksServedModel", "tried", "[I", true)
  | 3 => ("LooksServedModel", "before", "[I", true)
  | 4 => ("LooksServedModel", "isKept", "Z", false)
  | 5 => ("LooksServedModel", "images", "I", false)
  | 6 => ("LooksServedModel", "found", "[I", true)
  | 7 => ("LooksServedModel", "use", "I", false)
  | 8 => ("LooksServedModel", "at", "I", false)
  | 9 => ("LooksServedModel", "end", "I", false)
  | 10 => ("LooksServedModel", "open", "I", false)
  | 11 => ("LooksServedModel", "namedA", "I", false)
  | 12 => ("LooksServedModel", "namedB", "I", false)
  | 13 => ("LooksServedModel", "namedC", "I", false)
  | 14 => ("LooksServedModel", "good", "Z", false)
  | 15 => ("LooksServedModel", "bitsOf", "[I", true)
  | 16 => ("LooksServedModel", "sizeOf", "[I", true)
  | 17 => ("LooksServedModel", "sheets", "[I", true)
  | 18 => ("LooksServedModel", "moved", "[I", true)
  | 19 => ("LooksServedModel", "hads", "[I", true)
  | 20 => ("LooksServedModel", "traced", "[I", true)
  | 21 => ("LooksServedModel", "tracedMany", "I", false)
  | 22 => ("LooksServedModel", "voiceKind", "I", false)
  | 23 => ("LooksServedModel", "voiceN", "I", false)
  | _ => ("LooksServedModel", "voiceM", "I", false)
def tyX7 : Nat → FieldType := fun k => match k with
  | 0 => .array .int
  | 1 => .array .int
  | 2 => .array .int
  | 3 => .array .int
  | 4 => .boolean
  | 5 => .int
  | 6 => .array .int
  | 7 => .int
  | 8 => .int
  | 9 => .int
  | 10 => .int
  | 11 => .int
  | 12 => .int
  | 13 => .int
  | 14 => .boolean
  | 15 => .array .int
  | 16 => .array .int
  | 17 => .array .int
  | 18 => .array .int
  | 19 => .array .int
  | 20 => .array .int
  | 21 => .int
  | 22 => .int
  | 23 => .int
  | _ => .int
abbrev wsX70 : List Cond := u_ws RX7 TX7 25
theorem nmX7 : ∀ a, a < 25 → ∀ b, b < 25 → a ≠ b → (TX7 a).2.1 ≠ (TX7 b).2.1 := by decide +kernel
theorem tyX7_ok : ∀ k, k < 25 → parseFieldDescriptor (TX7 k).2.2.1 = some (tyX7 k) := by decide +kernel
abbrev cX7_init : ByteArray := prog_9_method_1_code
def yX7_init : MethodName := ⟨RX7, "<init>", "()V"⟩
abbrev cX7_in : ByteArray := prog_9_method_2_code
def yX7_in : MethodName := ⟨RX7, "in", "(III)Z"⟩
abbrev cX7_errs : ByteArray := prog_9_method_3_code
def yX7_errs : MethodName := ⟨RX7, "errs", "(I)I"⟩
abbrev cX7_held : ByteArray := prog_9_method_4_code
def yX7_held : MethodName := ⟨RX7, "held", "(III)I"⟩
abbrev cX7_moveAll : ByteArray := prog_9_method_5_code
def yX7_moveAll : MethodName := ⟨RX7, "moveAll", "([I[I)V"⟩
abbrev cX7_its : ByteArray := prog_9_method_6_code
def yX7_its : MethodName := ⟨RX7, "its", "(II)I"⟩
abbrev cX7_gets : ByteArray := prog_9_method_7_code
def yX7_gets : MethodName := ⟨RX7, "gets", "(III)V"⟩
abbrev cX7_isDiner : ByteArray := prog_9_method_8_code
def yX7_isDiner : MethodName := ⟨RX7, "isDiner", "(I)Z"⟩
abbrev cX7_becomes : ByteArray := prog_9_method_9_code
def yX7_becomes : MethodName := ⟨RX7, "becomes", "(II)I"⟩
abbrev cX7_fills : ByteArray := prog_9_method_10_code
def yX7_fills : MethodName := ⟨RX7, "fills", "(II)I"⟩
abbrev cX7_filling : ByteArray := prog_9_method_11_code
def yX7_filling : MethodName := ⟨RX7, "filling", "(I)I"⟩
abbrev cX7_waiters : ByteArray := prog_9_method_12_code
def yX7_waiters : MethodName := ⟨RX7, "waiters", "(I)I"⟩
abbrev cX7_diner : ByteArray := prog_9_method_13_code
def yX7_diner : MethodName := ⟨RX7, "diner", "(III)I"⟩
abbrev cX7_ofDiner : ByteArray := prog_9_method_14_code
def yX7_ofDiner : MethodName := ⟨RX7, "ofDiner", "(II)I"⟩
abbrev cX7_change : ByteArray := prog_9_method_15_code
def yX7_change : MethodName := ⟨RX7, "change", "(III)I"⟩
abbrev cX7_become : ByteArray := prog_9_method_16_code
def yX7_become : MethodName := ⟨RX7, "become", "(II)I"⟩
abbrev cX7_above : ByteArray := prog_9_method_17_code
def yX7_above : MethodName := ⟨RX7, "above", "(I)I"⟩
abbrev cX7_as : ByteArray := prog_9_method_18_code
def yX7_as : MethodName := ⟨RX7, "as", "(II)I"⟩
abbrev cX7_byteAt : ByteArray := prog_9_method_19_code
def yX7_byteAt : MethodName := ⟨RX7, "byteAt", "(I)I"⟩
abbrev cX7_isDigit : ByteArray := prog_9_method_20_code
def yX7_isDigit : MethodName := ⟨RX7, "isDigit", "(I)Z"⟩
abbrev cX7_fails : ByteArray := prog_9_method_21_code
def yX7_fails : MethodName := ⟨RX7, "fails", "()I"⟩
abbrev cX7_number : ByteArray := prog_9_method_22_code
def yX7_number : MethodName := ⟨RX7, "number", "()I"⟩
abbrev cX7_named : ByteArray := prog_9_method_23_code
def yX7_named : MethodName := ⟨RX7, "named", "(I)I"⟩
abbrev cX7_factor : ByteArray := prog_9_method_24_code
def yX7_factor : MethodName := ⟨RX7, "factor", "()I"⟩
abbrev cX7_product : ByteArray := prog_9_method_25_code
def yX7_product : MethodName := ⟨RX7, "product", "()I"⟩
abbrev cX7_sum : ByteArray := prog_9_method_26_code
def yX7_sum : MethodName := ⟨RX7, "sum", "()I"⟩
abbrev cX7_compared : ByteArray := prog_9_method_27_code
def yX7_compared : MethodName := ⟨RX7, "compared", "()I"⟩
abbrev cX7_both : ByteArray := prog_9_method_28_code
def yX7_both : MethodName := ⟨RX7, "both", "()I"⟩
abbrev cX7_whole : ByteArray := prog_9_method_29_code
def yX7_whole : MethodName := ⟨RX7, "whole", "()I"⟩
abbrev cX7_walks : ByteArray := prog_9_method_30_code
def yX7_walks : MethodName := ⟨RX7, "walks", "(IIII)I"⟩
abbrev cX7_lawOf : ByteArray := prog_9_method_31_code
def yX7_lawOf : MethodName := ⟨RX7, "lawOf", "(IIII)I"⟩
abbrev cX7_law : ByteArray := prog_9_method_32_code
def yX7_law : MethodName := ⟨RX7, "law", "(IIII)I"⟩
abbrev cX7_feed : ByteArray := prog_9_method_33_code
def yX7_feed : MethodName := ⟨RX7, "feed", "(JI)I"⟩
abbrev cX7_text : ByteArray := prog_9_method_34_code
def yX7_text : MethodName := ⟨RX7, "text", "(I)I"⟩
abbrev cX7_face : ByteArray := prog_9_method_35_code
def yX7_face : MethodName := ⟨RX7, "face", "(I)I"⟩
abbrev cX7_grows : ByteArray := prog_9_method_36_code
def yX7_grows : MethodName := ⟨RX7, "grows", "(I)I"⟩
abbrev cX7_ahead : ByteArray := prog_9_method_37_code
def yX7_ahead : MethodName := ⟨RX7, "ahead", "(I)I"⟩
abbrev cX7_served : ByteArray := prog_9_method_38_code
def yX7_served : MethodName := ⟨RX7, "served", "()I"⟩
abbrev cX7_oneStep : ByteArray := prog_9_method_39_code
def yX7_oneStep : MethodName := ⟨RX7, "oneStep", "()V"⟩
abbrev cX7_sits : ByteArray := prog_9_method_40_code
def yX7_sits : MethodName := ⟨RX7, "sits", "(IZ)V"⟩
abbrev cX7_passes : ByteArray := prog_9_method_41_code
def yX7_passes : MethodName := ⟨RX7, "passes", "(I)V"⟩
abbrev cX7_sumOf : ByteArray := prog_9_method_42_code
def yX7_sumOf : MethodName := ⟨RX7, "sumOf", "(I)I"⟩
abbrev cX7_steps : ByteArray := prog_9_method_43_code
def yX7_steps : MethodName := ⟨RX7, "steps", "(I)I"⟩
abbrev cX7_drawn : ByteArray := prog_9_method_44_code
def yX7_drawn : MethodName := ⟨RX7, "drawn", "()I"⟩
abbrev cX7_loose : ByteArray := prog_9_method_45_code
def yX7_loose : MethodName := ⟨RX7, "loose", "(I)I"⟩
abbrev cX7_next : ByteArray := prog_9_method_46_code
def yX7_next : MethodName := ⟨RX7, "next", "()I"⟩
abbrev cX7_then : ByteArray := prog_9_method_47_code
def yX7_then : MethodName := ⟨RX7, "then", "(III)I"⟩
abbrev cX7_first : ByteArray := prog_9_method_48_code
def yX7_first : MethodName := ⟨RX7, "first", "(I)I"⟩
abbrev cX7_moreThan : ByteArray := prog_9_method_49_code
def yX7_moreThan : MethodName := ⟨RX7, "moreThan", "([I)I"⟩
abbrev cX7_fed : ByteArray := prog_9_method_50_code
def yX7_fed : MethodName := ⟨RX7, "fed", "(III)I"⟩
abbrev cX7_never : ByteArray := prog_9_method_51_code
def yX7_never : MethodName := ⟨RX7, "never", "()I"⟩
abbrev cX7_leastSham : ByteArray := prog_9_method_52_code
def yX7_leastSham : MethodName := ⟨RX7, "leastSham", "(II)I"⟩
abbrev cX7_sham : ByteArray := prog_9_method_53_code
def yX7_sham : MethodName := ⟨RX7, "sham", "(II)I"⟩
abbrev cX7_alike : ByteArray := prog_9_method_54_code
def yX7_alike : MethodName := ⟨RX7, "alike", "(II)I"⟩
abbrev cX7_isSheet : ByteArray := prog_9_method_55_code
def yX7_isSheet : MethodName := ⟨RX7, "isSheet", "(I)Z"⟩
abbrev cX7_isSoFor : ByteArray := prog_9_method_56_code
def yX7_isSoFor : MethodName := ⟨RX7, "isSoFor", "(I)I"⟩
abbrev cX7_whose : ByteArray := prog_9_method_57_code
def yX7_whose : MethodName := ⟨RX7, "whose", "(II)I"⟩
abbrev cX7_rank : ByteArray := prog_9_method_58_code
def yX7_rank : MethodName := ⟨RX7, "rank", "(I)I"⟩
abbrev cX7_harm : ByteArray := prog_9_method_59_code
def yX7_harm : MethodName := ⟨RX7, "harm", "(II)I"⟩
abbrev cX7_cramps : ByteArray := prog_9_method_60_code
def yX7_cramps : MethodName := ⟨RX7, "cramps", "(II)I"⟩
abbrev cX7_enough : ByteArray := prog_9_method_61_code
def yX7_enough : MethodName := ⟨RX7, "enough", "(II)I"⟩
abbrev cX7_meals : ByteArray := prog_9_method_62_code
def yX7_meals : MethodName := ⟨RX7, "meals", "(I)I"⟩
abbrev cX7_divisor : ByteArray := prog_9_method_63_code
def yX7_divisor : MethodName := ⟨RX7, "divisor", "(II)I"⟩
abbrev cX7_odds : ByteArray := prog_9_method_64_code
def yX7_odds : MethodName := ⟨RX7, "odds", "(III)I"⟩
abbrev cX7_seed : ByteArray := prog_9_method_65_code
def yX7_seed : MethodName := ⟨RX7, "seed", "(I)I"⟩
abbrev cX7_ran : ByteArray := prog_9_method_66_code
def yX7_ran : MethodName := ⟨RX7, "ran", "(I)V"⟩
abbrev cX7_looksIn : ByteArray := prog_9_method_67_code
def yX7_looksIn : MethodName := ⟨RX7, "looksIn", "(II)I"⟩
abbrev cX7_waitsIn : ByteArray := prog_9_method_68_code
def yX7_waitsIn : MethodName := ⟨RX7, "waitsIn", "(II)I"⟩
abbrev cX7_eatsIn : ByteArray := prog_9_method_69_code
def yX7_eatsIn : MethodName := ⟨RX7, "eatsIn", "(II)I"⟩
abbrev cX7_tellsIn : ByteArray := prog_9_method_70_code
def yX7_tellsIn : MethodName := ⟨RX7, "tellsIn", "(II)I"⟩
abbrev cX7_voice : ByteArray := prog_9_method_71_code
def yX7_voice : MethodName := ⟨RX7, "voice", "(III)I"⟩
abbrev cX7_trace : ByteArray := prog_9_method_72_code
def yX7_trace : MethodName := ⟨RX7, "trace", "(I)I"⟩
abbrev cX7_narrow : ByteArray := prog_9_method_73_code
def yX7_narrow : MethodName := ⟨RX7, "narrow", "(II)I"⟩
abbrev cX7_sheet : ByteArray := prog_9_method_74_code
def yX7_sheet : MethodName := ⟨RX7, "sheet", "(III)I"⟩
abbrev cX7_put : ByteArray := prog_9_method_75_code
def yX7_put : MethodName := ⟨RX7, "put", "(III)I"⟩
abbrev cX7_move : ByteArray := prog_9_method_76_code
def yX7_move : MethodName := ⟨RX7, "move", "(IIIII)I"⟩
abbrev cX7_shams : ByteArray := prog_9_method_77_code
def yX7_shams : MethodName := ⟨RX7, "shams", "(I)I"⟩
abbrev cX7_judge : ByteArray := prog_9_method_78_code
def yX7_judge : MethodName := ⟨RX7, "judge", "(I)I"⟩
abbrev cX7_image : ByteArray := prog_9_method_79_code
def yX7_image : MethodName := ⟨RX7, "image", "()I"⟩
abbrev cX7_restore : ByteArray := prog_9_method_80_code
def yX7_restore : MethodName := ⟨RX7, "restore", "()I"⟩
abbrev cX7_tell : ByteArray := prog_9_method_81_code
def yX7_tell : MethodName := ⟨RX7, "tell", "(I)I"⟩
abbrev cX7_check : ByteArray := prog_9_method_82_code
def yX7_check : MethodName := ⟨RX7, "check", "()I"⟩
abbrev cX7_count : ByteArray := prog_9_method_83_code
def yX7_count : MethodName := ⟨RX7, "count", "(I)I"⟩
abbrev cX7_told : ByteArray := prog_9_method_84_code
def yX7_told : MethodName := ⟨RX7, "told", "(I)I"⟩
def RJx145de : String := "java/io/Serializable"
def TJx145de : u_T := fun k => match k with
  | _ => ("", "", "", false)
def tyJx145de : Nat → FieldType := fun k => match k with
  | _ => .int
abbrev wsJx145de0 : List Cond := u_ws RJx145de TJx145de 0
theorem nmJx145de : ∀ a, a < 0 → ∀ b, b < 0 → a ≠ b → (TJx145de a).2.1 ≠ (TJx145de b).2.1 := by decide +kernel
theorem tyJx145de_ok : ∀ k, k < 0 → parseFieldDescriptor (TJx145de k).2.2.1 = some (tyJx145de k) := by decide +kernel
def RJx9f9b0 : String := "java/lang/CharSequence"
def TJx9f9b0 : u_T := fun k => match k with
  | _ => ("", "", "", false)
def tyJx9f9b0 : Nat → FieldType := fun k => match k with
  | _ => .int
abbrev wsJx9f9b00 : List Cond := u_ws RJx9f9b0 TJx9f9b0 0
theorem nmJx9f9b0 : ∀ a, a < 0 → ∀ b, b < 0 → a ≠ b → (TJx9f9b0 a).2.1 ≠ (TJx9f9b0 b).2.1 := by decide +kernel
theorem tyJx9f9b0_ok : ∀ k, k < 0 → parseFieldDescriptor (TJx9f9b0 k).2.2.1 = some (tyJx9f9b0 k) := by decide +kernel
def RJ11 : String := "java/lang/Character"
def TJ11 : u_T := fun k => match k with
  | _ => ("", "", "", false)
def tyJ11 : Nat → FieldType := fun k => match k with
  | _ => .int
abbrev wsJ110 : List Cond := u_ws RJ11 TJ11 0
theorem nmJ11 : ∀ a, a < 0 → ∀ b, b < 0 → a ≠ b → (TJ11 a).2.1 ≠ (TJ11 b).2.1 := by decide +kernel
theorem tyJ11_ok : ∀ k, k < 0 → parseFieldDescriptor (TJ11 k).2.2.1 = some (tyJ11 k) := by decide +kernel
abbrev cJ11_isValidCodePoint_9a6ad : ByteArray := prog_10_method_11_code
def yJ11_isValidCodePoint_9a6ad : MethodName := ⟨RJ11, "isValidCodePoint", "(I)Z"⟩
abbrev cJ11_highSurrogate_5068e : ByteArray := prog_10_method_28_code
def yJ11_highSurrogate_5068e : MethodName := ⟨RJ11, "highSurrogate", "(I)C"⟩
abbrev cJ11_lowSurrogate_5068e : ByteArray := prog_10_method_29_code
def yJ11_lowSurrogate_5068e : MethodName := ⟨RJ11, "lowSurrogate", "(I)C"⟩
def RJx8e188 : String := "java/lang/Cloneable"
def TJx8e188 : u_T := fun k => match k with
  | _ => ("", "", "", false)
def tyJx8e188 : Nat → FieldType := fun k => match k with
  | _ => .int
abbrev wsJx8e1880 : List Cond := u_ws RJx8e188 TJx8e188 0
theorem nmJx8e188 : ∀ a, a < 0 → ∀ b, b < 0 → a ≠ b → (TJx8e188 a).2.1 ≠ (TJx8e188 b).2.1 := by decide +kernel
theorem tyJx8e188_ok : ∀ k, k < 0 → parseFieldDescriptor (TJx8e188 k).2.2.1 = some (tyJx8e188 k) := by decide +kernel
def RJxb160c : String := "java/lang/Comparable"
def TJxb160c : u_T := fun k => match k with
  | _ => ("", "", "", false)
def tyJxb160c : Nat → FieldType := fun k => match k with
  | _ => .int
abbrev wsJxb160c0 : List Cond := u_ws RJxb160c TJxb160c 0
theorem nmJxb160c : ∀ a, a < 0 → ∀ b, b < 0 → a ≠ b → (TJxb160c a).2.1 ≠ (TJxb160c b).2.1 := by decide +kernel
theorem tyJxb160c_ok : ∀ k, k < 0 → parseFieldDescriptor (TJxb160c k).2.2.1 = some (tyJxb160c k) := by decide +kernel
def RJ9 : String := "java/lang/Math"
def TJ9 : u_T := fun k => match k with
  | _ => ("", "", "", false)
def tyJ9 : Nat → FieldType := fun k => match k with
  | _ => .int
abbrev wsJ90 : List Cond := u_ws RJ9 TJ9 0
theorem nmJ9 : ∀ a, a < 0 → ∀ b, b < 0 → a ≠ b → (TJ9 a).2.1 ≠ (TJ9 b).2.1 := by decide +kernel
theorem tyJ9_ok : ∀ k, k < 0 → parseFieldDescriptor (TJ9 k).2.2.1 = some (tyJ9 k) := by decide +kernel
abbrev cJ9_max_7cf53 : ByteArray := prog_12_method_65_code
def yJ9_max_7cf53 : MethodName := ⟨RJ9, "max", "(II)I"⟩
abbrev cJ9_min_7cf53 : ByteArray := prog_12_method_69_code
def yJ9_min_7cf53 : MethodName := ⟨RJ9, "min", "(II)I"⟩
def RJ0 : String := "java/lang/String"
def TJ0 : u_T := fun k => match k with
  | _ => ("", "", "", false)
def tyJ0 : Nat → FieldType := fun k => match k with
  | _ => .int
abbrev wsJ00 : List Cond := u_ws RJ0 TJ0 0
theorem nmJ0 : ∀ a, a < 0 → ∀ b, b < 0 → a ≠ b → (TJ0 a).2.1 ≠ (TJ0 b).2.1 := by decide +kernel
theorem tyJ0_ok : ∀ k, k < 0 → parseFieldDescriptor (TJ0 k).2.2.1 = some (tyJ0 k) := by decide +kernel
abbrev cJ0_length_8abf5 : ByteArray := prog_13_method_54_code
def yJ0_length_8abf5 : MethodName := ⟨RJ0, "length", "()I"⟩
abbrev cJ0_indexOf_0f7a4 : ByteArray := prog_13_method_79_code
def yJ0_indexOf_0f7a4 : MethodName := ⟨RJ0, "indexOf", "(I)I"⟩
abbrev cJ0_indexOf_7cf53 : ByteArray := prog_13_method_80_code
def yJ0_indexOf_7cf53 : MethodName := ⟨RJ0, "indexOf", "(II)I"⟩
abbrev cJ0_coder_7d493 : ByteArray := prog_13_method_152_code
def yJ0_coder_7d493 : MethodName := ⟨RJ0, "coder", "()B"⟩
abbrev cJ0_isLatin1_aae02 : ByteArray := prog_13_method_154_code
def yJ0_isLatin1_aae02 : MethodName := ⟨RJ0, "isLatin1", "()Z"⟩
abbrev cJ0_checkBoundsBeginEnd_23922 : ByteArray := prog_13_method_158_code
def yJ0_checkBoundsBeginEnd_23922 : MethodName := ⟨RJ0, "checkBoundsBeginEnd", "(III)V"⟩
def RJ1 : String := "java/lang/StringLatin1"
def TJ1 : u_T := fun k => match k with
  | _ => ("", "", "", false)
def tyJ1 : Nat → FieldType := fun k => match k with
  | _ => .int
abbrev wsJ10 : List Cond := u_ws RJ1 TJ1 0
theorem nmJ1 : ∀ a, a < 0 → ∀ b, b < 0 → a ≠ b → (TJ1 a).2.1 ≠ (TJ1 b).2.1 := by decide +kernel
theorem tyJ1_ok : ∀ k, k < 0 → parseFieldDescriptor (TJ1 k).2.2.1 = some (tyJ1 k) := by decide +kernel
abbrev cJ1_canEncode_9a6ad : ByteArray := prog_14_method_4_code
def yJ1_canEncode_9a6ad : MethodName := ⟨RJ1, "canEncode", "(I)Z"⟩
abbrev cJ1_indexOf_4cfef : ByteArray := prog_14_method_22_code
def yJ1_indexOf_4cfef : MethodName := ⟨RJ1, "indexOf", "([BIII)I"⟩
abbrev cJ1_indexOfChar_4cfef : ByteArray := prog_14_method_23_code
def yJ1_indexOfChar_4cfef : MethodName := ⟨RJ1, "indexOfChar", "([BIII)I"⟩
def RJ2 : String := "java/lang/StringUTF16"
def TJ2 : u_T := fun k => match k with
  | _ => ("", "", "", false)
def tyJ2 : Nat → FieldType := fun k => match k with
  | _ => .int
abbrev wsJ20 : List Cond := u_ws RJ2 TJ2 0
theorem nmJ2 : ∀ a, a < 0 → ∀ b, b < 0 → a ≠ b → (TJ2 a).2.1 ≠ (TJ2 b).2.1 := by decide +kernel
theorem tyJ2_ok : ∀ k, k < 0 → parseFieldDescriptor (TJ2 k).2.2.1 = some (tyJ2 k) := by decide +kernel
abbrev cJ2_getChar_3b067 : ByteArray := prog_15_method_5_code
def yJ2_getChar_3b067 : MethodName := ⟨RJ2, "getChar", "([BI)C"⟩
abbrev cJ2_length_9d52b : ByteArray := prog_15_method_6_code
def yJ2_length_9d52b : MethodName := ⟨RJ2, "length", "([B)I"⟩
abbrev cJ2_indexOf_4cfef : ByteArray := prog_15_method_40_code
def yJ2_indexOf_4cfef : MethodName := ⟨RJ2, "indexOf", "([BIII)I"⟩
abbrev cJ2_indexOfChar_4cfef : ByteArray := prog_15_method_47_code
def yJ2_indexOfChar_4cfef : MethodName := ⟨RJ2, "indexOfChar", "([BIII)I"⟩
abbrev cJ2_indexOfCharUnsafe_4cfef : ByteArray := prog_15_method_48_code
def yJ2_indexOfCharUnsafe_4cfef : MethodName := ⟨RJ2, "indexOfCharUnsafe", "([BIII)I"⟩
abbrev cJ2_indexOfSupplementary_4cfef : ByteArray := prog_15_method_49_code
def yJ2_indexOfSupplementary_4cfef : MethodName := ⟨RJ2, "indexOfSupplementary", "([BIII)I"⟩
abbrev cJ2_checkBoundsBeginEnd_d044e : ByteArray := prog_15_method_93_code
def yJ2_checkBoundsBeginEnd_d044e : MethodName := ⟨RJ2, "checkBoundsBeginEnd", "(II[B)V"⟩
def RJ10 : String := "java/lang/System"
def TJ10 : u_T := fun k => match k with
  | _ => ("", "", "", false)
def tyJ10 : Nat → FieldType := fun k => match k with
  | _ => .int
abbrev wsJ100 : List Cond := u_ws RJ10 TJ10 0
theorem nmJ10 : ∀ a, a < 0 → ∀ b, b < 0 → a ≠ b → (TJ10 a).2.1 ≠ (TJ10 b).2.1 := by decide +kernel
theorem tyJ10_ok : ∀ k, k < 0 → parseFieldDescriptor (TJ10 k).2.2.1 = some (tyJ10 k) := by decide +kernel
def RJxfd54e : String := "java/lang/constant/Constable"
def TJxfd54e : u_T := fun k => match k with
  | _ => ("", "", "", false)
def tyJxfd54e : Nat → FieldType := fun k => match k with
  | _ => .int
abbrev wsJxfd54e0 : List Cond := u_ws RJxfd54e TJxfd54e 0
theorem nmJxfd54e : ∀ a, a < 0 → ∀ b, b < 0 → a ≠ b → (TJxfd54e a).2.1 ≠ (TJxfd54e b).2.1 := by decide +kernel
theorem tyJxfd54e_ok : ∀ k, k < 0 → parseFieldDescriptor (TJxfd54e k).2.2.1 = some (tyJxfd54e k) := by decide +kernel
def RJx3cf43 : String := "java/lang/constant/ConstantDesc"
def TJx3cf43 : u_T := fun k => match k with
  | _ => ("", "", "", false)
def tyJx3cf43 : Nat → FieldType := fun k => match k with
  | _ => .int
abbrev wsJx3cf430 : List Cond := u_ws RJx3cf43 TJx3cf43 0
theorem nmJx3cf43 : ∀ a, a < 0 → ∀ b, b < 0 → a ≠ b → (TJx3cf43 a).2.1 ≠ (TJx3cf43 b).2.1 := by decide +kernel
theorem tyJx3cf43_ok : ∀ k, k < 0 → parseFieldDescriptor (TJx3cf43 k).2.2.1 = some (tyJx3cf43 k) := by decide +kernel
def RJ7 : String := "java/util/Arrays"
def TJ7 : u_T := fun k => match k with
  | _ => ("", "", "", false)
def tyJ7 : Nat → FieldType := fun k => match k with
  | _ => .int
abbrev wsJ70 : List Cond := u_ws RJ7 TJ7 0
theorem nmJ7 : ∀ a, a < 0 → ∀ b, b < 0 → a ≠ b → (TJ7 a).2.1 ≠ (TJ7 b).2.1 := by decide +kernel
theorem tyJ7_ok : ∀ k, k < 0 → parseFieldDescriptor (TJ7 k).2.2.1 = some (tyJ7 k) := by decide +kernel
abbrev cJ7_fill_53178 : ByteArray := prog_17_method_103_code
def yJ7_fill_53178 : MethodName := ⟨RJ7, "fill", "([II)V"⟩
abbrev cJ7_copyOf_59c91 : ByteArray := prog_17_method_123_code
def yJ7_copyOf_59c91 : MethodName := ⟨RJ7, "copyOf", "([II)[I"⟩
def RJ3 : String := "jdk/internal/util/Preconditions"
def TJ3 : u_T := fun k => match k with
  | _ => ("", "", "", false)
def tyJ3 : Nat → FieldType := fun k => match k with
  | _ => .int
abbrev wsJ30 : List Cond := u_ws RJ3 TJ3 0
theorem nmJ3 : ∀ a, a < 0 → ∀ b, b < 0 → a ≠ b → (TJ3 a).2.1 ≠ (TJ3 b).2.1 := by decide +kernel
theorem tyJ3_ok : ∀ k, k < 0 → parseFieldDescriptor (TJ3 k).2.2.1 = some (tyJ3 k) := by decide +kernel
abbrev cJ3_checkFromToIndex_8c36e : ByteArray := prog_18_method_12_code
def yJ3_checkFromToIndex_8c36e : MethodName := ⟨RJ3, "checkFromToIndex", "(IIILjava/util/function/BiFunction;)I"⟩
def RL : String := "LooksServedLaw"
abbrev cL_law : ByteArray := code
def yL_law : MethodName := ⟨RL, "law", "([I)Z"⟩
abbrev vwCl : List vw_C := [(RX0, TX0, 5), (RX1, TX1, 2), (RX2, TX2, 7), (RX3, TX3, 3), (RX4, TX4, 13), (RX5, TX5, 5), (RX6, TX6, 11), (RX7, TX7, 25)]
