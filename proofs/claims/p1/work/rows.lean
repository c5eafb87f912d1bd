section
/-- a private method of a class that the tables say can be made, by its rows of tables_1 -/
def lw_okq (q : MethodName × Nat) : Prop := (q.1.cls ≠ "java/lang/invoke/MethodHandle" ∧ q.1.cls ≠ "java/lang/invoke/VarHandle") ∧ Cond.instantiable q.1.cls q.2 ∈ tables_1 ∧ Cond.privateMethod q.1 ∈ tables_1 ∧ Cond.instanceMethod q.1 ∈ tables_1
theorem lw_p0 : lw_okq (⟨"LooksServed", "error", "(I)I"⟩, 11) := ⟨⟨by decide +kernel, by decide +kernel⟩, List.mem_of_getElem? (i := 18) (by decide +kernel), List.mem_of_getElem? (i := 233) (by decide +kernel), List.mem_of_getElem? (i := 234) (by decide +kernel)⟩
theorem lw_p1 : lw_okq (⟨"LooksServed", "isDiner", "(I)Z"⟩, 11) := ⟨⟨by decide +kernel, by decide +kernel⟩, List.mem_of_getElem? (i := 18) (by decide +kernel), List.mem_of_getElem? (i := 254) (by decide +kernel), List.mem_of_getElem? (i := 255) (by decide +kernel)⟩
theorem lw_p2 : lw_okq (⟨"LooksServed$Reader", "readLevel", "(II)V"⟩, 7) := ⟨⟨by decide +kernel, by decide +kernel⟩, List.mem_of_getElem? (i := 113) (by decide +kernel), List.mem_of_getElem? (i := 310) (by decide +kernel), List.mem_of_getElem? (i := 311) (by decide +kernel)⟩
theorem lw_p3 : lw_okq (⟨"LooksServed$Reader", "readQ", "(I)V"⟩, 7) := ⟨⟨by decide +kernel, by decide +kernel⟩, List.mem_of_getElem? (i := 113) (by decide +kernel), List.mem_of_getElem? (i := 314) (by decide +kernel), List.mem_of_getElem? (i := 315) (by decide +kernel)⟩
theorem lw_p4 : lw_okq (⟨"LooksServed$Reader", "here", "()I"⟩, 7) := ⟨⟨by decide +kernel, by decide +kernel⟩, List.mem_of_getElem? (i := 113) (by decide +kernel), List.mem_of_getElem? (i := 318) (by decide +kernel), List.mem_of_getElem? (i := 319) (by decide +kernel)⟩
theorem lw_p5 : lw_okq (⟨"LooksServed$Reader", "readNumber", "()V"⟩, 7) := ⟨⟨by decide +kernel, by decide +kernel⟩, List.mem_of_getElem? (i := 113) (by decide +kernel), List.mem_of_getElem? (i := 409) (by decide +kernel), List.mem_of_getElem? (i := 410) (by decide +kernel)⟩
theorem lw_p6 : lw_okq (⟨"LooksServed$Reader", "add", "(I)V"⟩, 7) := ⟨⟨by decide +kernel, by decide +kernel⟩, List.mem_of_getElem? (i := 113) (by decide +kernel), List.mem_of_getElem? (i := 413) (by decide +kernel), List.mem_of_getElem? (i := 414) (by decide +kernel)⟩
theorem lw_p7 : lw_okq (⟨"LooksServed$Reader", "pass", "(Ljava/lang/String;)I"⟩, 7) := ⟨⟨by decide +kernel, by decide +kernel⟩, List.mem_of_getElem? (i := 113) (by decide +kernel), List.mem_of_getElem? (i := 418) (by decide +kernel), List.mem_of_getElem? (i := 419) (by decide +kernel)⟩
theorem lw_p8 : lw_okq (⟨"LooksServed$Reader", "fail", "()V"⟩, 7) := ⟨⟨by decide +kernel, by decide +kernel⟩, List.mem_of_getElem? (i := 113) (by decide +kernel), List.mem_of_getElem? (i := 422) (by decide +kernel), List.mem_of_getElem? (i := 423) (by decide +kernel)⟩
theorem lw_p9 : lw_okq (⟨"LooksServed$Table", "pass", "(IZ)V"⟩, 13) := ⟨⟨by decide +kernel, by decide +kernel⟩, List.mem_of_getElem? (i := 26) (by decide +kernel), List.mem_of_getElem? (i := 498) (by decide +kernel), List.mem_of_getElem? (i := 499) (by decide +kernel)⟩
theorem lw_p10 : lw_okq (⟨"LooksServed$Table", "grows", "(I)I"⟩, 13) := ⟨⟨by decide +kernel, by decide +kernel⟩, List.mem_of_getElem? (i := 26) (by decide +kernel), List.mem_of_getElem? (i := 504) (by decide +kernel), List.mem_of_getElem? (i := 505) (by decide +kernel)⟩
theorem lw_p11 : lw_okq (⟨"LooksServed", "drawSham", "()V"⟩, 11) := ⟨⟨by decide +kernel, by decide +kernel⟩, List.mem_of_getElem? (i := 18) (by decide +kernel), List.mem_of_getElem? (i := 517) (by decide +kernel), List.mem_of_getElem? (i := 518) (by decide +kernel)⟩
theorem lw_p12 : lw_okq (⟨"LooksServed", "think", "()LLooksServed$Table;"⟩, 11) := ⟨⟨by decide +kernel, by decide +kernel⟩, List.mem_of_getElem? (i := 18) (by decide +kernel), List.mem_of_getElem? (i := 537) (by decide +kernel), List.mem_of_getElem? (i := 538) (by decide +kernel)⟩
theorem lw_p13 : lw_okq (⟨"LooksServed", "haveMore", "(LLooksServed$Table;I)Z"⟩, 11) := ⟨⟨by decide +kernel, by decide +kernel⟩, List.mem_of_getElem? (i := 18) (by decide +kernel), List.mem_of_getElem? (i := 574) (by decide +kernel), List.mem_of_getElem? (i := 575) (by decide +kernel)⟩
theorem lw_p14 : lw_okq (⟨"LooksServed", "stepsToldRightly", "(LLooksServed$Sheet;I)I"⟩, 11) := ⟨⟨by decide +kernel, by decide +kernel⟩, List.mem_of_getElem? (i := 18) (by decide +kernel), List.mem_of_getElem? (i := 583) (by decide +kernel), List.mem_of_getElem? (i := 584) (by decide +kernel)⟩
theorem lw_p15 : lw_okq (⟨"LooksServedModel", "becomes", "(II)I"⟩, 25) := ⟨⟨by decide +kernel, by decide +kernel⟩, List.mem_of_getElem? (i := 719) (by decide +kernel), List.mem_of_getElem? (i := 808) (by decide +kernel), List.mem_of_getElem? (i := 809) (by decide +kernel)⟩
def lw_privs_1 : List (MethodName × Nat) := [(⟨"LooksServed", "error", "(I)I"⟩, 11), (⟨"LooksServed", "isDiner", "(I)Z"⟩, 11), (⟨"LooksServed$Reader", "readLevel", "(II)V"⟩, 7), (⟨"LooksServed$Reader", "readQ", "(I)V"⟩, 7), (⟨"LooksServed$Reader", "here", "()I"⟩, 7), (⟨"LooksServed$Reader", "readNumber", "()V"⟩, 7), (⟨"LooksServed$Reader", "add", "(I)V"⟩, 7), (⟨"LooksServed$Reader", "pass", "(Ljava/lang/String;)I"⟩, 7), (⟨"LooksServed$Reader", "fail", "()V"⟩, 7), (⟨"LooksServed$Table", "pass", "(IZ)V"⟩, 13), (⟨"LooksServed$Table", "grows", "(I)I"⟩, 13), (⟨"LooksServed", "drawSham", "()V"⟩, 11), (⟨"LooksServed", "think", "()LLooksServed$Table;"⟩, 11), (⟨"LooksServed", "haveMore", "(LLooksServed$Table;I)Z"⟩, 11), (⟨"LooksServed", "stepsToldRightly", "(LLooksServed$Sheet;I)I"⟩, 11), (⟨"LooksServedModel", "becomes", "(II)I"⟩, 25)]
theorem lw_r1 : ∀ q ∈ lw_privs_1, lw_okq q := List.forall_mem_cons.mpr ⟨lw_p0, List.forall_mem_cons.mpr ⟨lw_p1, List.forall_mem_cons.mpr ⟨lw_p2, List.forall_mem_cons.mpr ⟨lw_p3, List.forall_mem_cons.mpr ⟨lw_p4, List.forall_mem_cons.mpr ⟨lw_p5, List.forall_mem_cons.mpr ⟨lw_p6, List.forall_mem_cons.mpr ⟨lw_p7, List.forall_mem_cons.mpr ⟨lw_p8, List.forall_mem_cons.mpr ⟨lw_p9, List.forall_mem_cons.mpr ⟨lw_p10, List.forall_mem_cons.mpr ⟨lw_p11, List.forall_mem_cons.mpr ⟨lw_p12, List.forall_mem_cons.mpr ⟨lw_p13, List.forall_mem_cons.mpr ⟨lw_p14, List.forall_mem_cons.mpr ⟨lw_p15, fun _ h => absurd h List.not_mem_nil⟩⟩⟩⟩⟩⟩⟩⟩⟩⟩⟩⟩⟩⟩⟩⟩
theorem lw_p16 : lw_okq (⟨"LooksServedModel", "errs", "(I)I"⟩, 25) := ⟨⟨by decide +kernel, by decide +kernel⟩, List.mem_of_getElem? (i := 719) (by decide +kernel), List.mem_of_getElem? (i := 813) (by decide +kernel), List.mem_of_getElem? (i := 814) (by decide +kernel)⟩
theorem lw_p17 : lw_okq (⟨"LooksServedModel", "gets", "(III)V"⟩, 25) := ⟨⟨by decide +kernel, by decide +kernel⟩, List.mem_of_getElem? (i := 719) (by decide +kernel), List.mem_of_getElem? (i := 831) (by decide +kernel), List.mem_of_getElem? (i := 832) (by decide +kernel)⟩
theorem lw_p18 : lw_okq (⟨"LooksServedModel", "isDiner", "(I)Z"⟩, 25) := ⟨⟨by decide +kernel, by decide +kernel⟩, List.mem_of_getElem? (i := 719) (by decide +kernel), List.mem_of_getElem? (i := 839) (by decide +kernel), List.mem_of_getElem? (i := 840) (by decide +kernel)⟩
theorem lw_p19 : lw_okq (⟨"LooksServedModel", "its", "(II)I"⟩, 25) := ⟨⟨by decide +kernel, by decide +kernel⟩, List.mem_of_getElem? (i := 719) (by decide +kernel), List.mem_of_getElem? (i := 843) (by decide +kernel), List.mem_of_getElem? (i := 844) (by decide +kernel)⟩
theorem lw_p20 : lw_okq (⟨"LooksServedModel", "face", "(I)I"⟩, 25) := ⟨⟨by decide +kernel, by decide +kernel⟩, List.mem_of_getElem? (i := 719) (by decide +kernel), List.mem_of_getElem? (i := 847) (by decide +kernel), List.mem_of_getElem? (i := 848) (by decide +kernel)⟩
theorem lw_p21 : lw_okq (⟨"LooksServedModel", "lawOf", "(IIII)I"⟩, 25) := ⟨⟨by decide +kernel, by decide +kernel⟩, List.mem_of_getElem? (i := 719) (by decide +kernel), List.mem_of_getElem? (i := 851) (by decide +kernel), List.mem_of_getElem? (i := 852) (by decide +kernel)⟩
theorem lw_p22 : lw_okq (⟨"LooksServedModel", "walks", "(IIII)I"⟩, 25) := ⟨⟨by decide +kernel, by decide +kernel⟩, List.mem_of_getElem? (i := 719) (by decide +kernel), List.mem_of_getElem? (i := 855) (by decide +kernel), List.mem_of_getElem? (i := 856) (by decide +kernel)⟩
theorem lw_p23 : lw_okq (⟨"LooksServedModel", "whole", "()I"⟩, 25) := ⟨⟨by decide +kernel, by decide +kernel⟩, List.mem_of_getElem? (i := 719) (by decide +kernel), List.mem_of_getElem? (i := 859) (by decide +kernel), List.mem_of_getElem? (i := 860) (by decide +kernel)⟩
theorem lw_p24 : lw_okq (⟨"LooksServedModel", "both", "()I"⟩, 25) := ⟨⟨by decide +kernel, by decide +kernel⟩, List.mem_of_getElem? (i := 719) (by decide +kernel), List.mem_of_getElem? (i := 863) (by decide +kernel), List.mem_of_getElem? (i := 864) (by decide +kernel)⟩
theorem lw_p25 : lw_okq (⟨"LooksServedModel", "compared", "()I"⟩, 25) := ⟨⟨by decide +kernel, by decide +kernel⟩, List.mem_of_getElem? (i := 719) (by decide +kernel), List.mem_of_getElem? (i := 867) (by decide +kernel), List.mem_of_getElem? (i := 868) (by decide +kernel)⟩
theorem lw_p26 : lw_okq (⟨"LooksServedModel", "sum", "()I"⟩, 25) := ⟨⟨by decide +kernel, by decide +kernel⟩, List.mem_of_getElem? (i := 719) (by decide +kernel), List.mem_of_getElem? (i := 871) (by decide +kernel), List.mem_of_getElem? (i := 872) (by decide +kernel)⟩
theorem lw_p27 : lw_okq (⟨"LooksServedModel", "product", "()I"⟩, 25) := ⟨⟨by decide +kernel, by decide +kernel⟩, List.mem_of_getElem? (i := 719) (by decide +kernel), List.mem_of_getElem? (i := 875) (by decide +kernel), List.mem_of_getElem? (i := 876) (by decide +kernel)⟩
theorem lw_p28 : lw_okq (⟨"LooksServedModel", "factor", "()I"⟩, 25) := ⟨⟨by decide +kernel, by decide +kernel⟩, List.mem_of_getElem? (i := 719) (by decide +kernel), List.mem_of_getElem? (i := 879) (by decide +kernel), List.mem_of_getElem? (i := 880) (by decide +kernel)⟩
theorem lw_p29 : lw_okq (⟨"LooksServedModel", "byteAt", "(I)I"⟩, 25) := ⟨⟨by decide +kernel, by decide +kernel⟩, List.mem_of_getElem? (i := 719) (by decide +kernel), List.mem_of_getElem? (i := 883) (by decide +kernel), List.mem_of_getElem? (i := 884) (by decide +kernel)⟩
theorem lw_p30 : lw_okq (⟨"LooksServedModel", "number", "()I"⟩, 25) := ⟨⟨by decide +kernel, by decide +kernel⟩, List.mem_of_getElem? (i := 719) (by decide +kernel), List.mem_of_getElem? (i := 890) (by decide +kernel), List.mem_of_getElem? (i := 891) (by decide +kernel)⟩
theorem lw_p31 : lw_okq (⟨"LooksServedModel", "named", "(I)I"⟩, 25) := ⟨⟨by decide +kernel, by decide +kernel⟩, List.mem_of_getElem? (i := 719) (by decide +kernel), List.mem_of_getElem? (i := 894) (by decide +kernel), List.mem_of_getElem? (i := 895) (by decide +kernel)⟩
def lw_privs_2 : List (MethodName × Nat) := [(⟨"LooksServedModel", "errs", "(I)I"⟩, 25), (⟨"LooksServedModel", "gets", "(III)V"⟩, 25), (⟨"LooksServedModel", "isDiner", "(I)Z"⟩, 25), (⟨"LooksServedModel", "its", "(II)I"⟩, 25), (⟨"LooksServedModel", "face", "(I)I"⟩, 25), (⟨"LooksServedModel", "lawOf", "(IIII)I"⟩, 25), (⟨"LooksServedModel", "walks", "(IIII)I"⟩, 25), (⟨"LooksServedModel", "whole", "()I"⟩, 25), (⟨"LooksServedModel", "both", "()I"⟩, 25), (⟨"LooksServedModel", "compared", "()I"⟩, 25), (⟨"LooksServedModel", "sum", "()I"⟩, 25), (⟨"LooksServedModel", "product", "()I"⟩, 25), (⟨"LooksServedModel", "factor", "()I"⟩, 25), (⟨"LooksServedModel", "byteAt", "(I)I"⟩, 25), (⟨"LooksServedModel", "number", "()I"⟩, 25), (⟨"LooksServedModel", "named", "(I)I"⟩, 25)]
theorem lw_r2 : ∀ q ∈ lw_privs_2, lw_okq q := List.forall_mem_cons.mpr ⟨lw_p16, List.forall_mem_cons.mpr ⟨lw_p17, List.forall_mem_cons.mpr ⟨lw_p18, List.forall_mem_cons.mpr ⟨lw_p19, List.forall_mem_cons.mpr ⟨lw_p20, List.forall_mem_cons.mpr ⟨lw_p21, List.forall_mem_cons.mpr ⟨lw_p22, List.forall_mem_cons.mpr ⟨lw_p23, List.forall_mem_cons.mpr ⟨lw_p24, List.forall_mem_cons.mpr ⟨lw_p25, List.forall_mem_cons.mpr ⟨lw_p26, List.forall_mem_cons.mpr ⟨lw_p27, List.forall_mem_cons.mpr ⟨lw_p28, List.forall_mem_cons.mpr ⟨lw_p29, List.forall_mem_cons.mpr ⟨lw_p30, List.forall_mem_cons.mpr ⟨lw_p31, fun _ h => absurd h List.not_mem_nil⟩⟩⟩⟩⟩⟩⟩⟩⟩⟩⟩⟩⟩⟩⟩⟩
theorem lw_p32 : lw_okq (⟨"LooksServedModel", "fails", "()I"⟩, 25) := ⟨⟨by decide +kernel, by decide +kernel⟩, List.mem_of_getElem? (i := 719) (by decide +kernel), List.mem_of_getElem? (i := 898) (by decide +kernel), List.mem_of_getElem? (i := 899) (by decide +kernel)⟩
theorem lw_p33 : lw_okq (⟨"LooksServedModel", "moveAll", "([I[I)V"⟩, 25) := ⟨⟨by decide +kernel, by decide +kernel⟩, List.mem_of_getElem? (i := 719) (by decide +kernel), List.mem_of_getElem? (i := 934) (by decide +kernel), List.mem_of_getElem? (i := 935) (by decide +kernel)⟩
theorem lw_p34 : lw_okq (⟨"LooksServedModel", "passes", "(I)V"⟩, 25) := ⟨⟨by decide +kernel, by decide +kernel⟩, List.mem_of_getElem? (i := 719) (by decide +kernel), List.mem_of_getElem? (i := 943) (by decide +kernel), List.mem_of_getElem? (i := 944) (by decide +kernel)⟩
theorem lw_p35 : lw_okq (⟨"LooksServedModel", "oneStep", "()V"⟩, 25) := ⟨⟨by decide +kernel, by decide +kernel⟩, List.mem_of_getElem? (i := 719) (by decide +kernel), List.mem_of_getElem? (i := 947) (by decide +kernel), List.mem_of_getElem? (i := 948) (by decide +kernel)⟩
theorem lw_p36 : lw_okq (⟨"LooksServedModel", "served", "()I"⟩, 25) := ⟨⟨by decide +kernel, by decide +kernel⟩, List.mem_of_getElem? (i := 719) (by decide +kernel), List.mem_of_getElem? (i := 951) (by decide +kernel), List.mem_of_getElem? (i := 952) (by decide +kernel)⟩
theorem lw_p37 : lw_okq (⟨"LooksServedModel", "ahead", "(I)I"⟩, 25) := ⟨⟨by decide +kernel, by decide +kernel⟩, List.mem_of_getElem? (i := 719) (by decide +kernel), List.mem_of_getElem? (i := 955) (by decide +kernel), List.mem_of_getElem? (i := 956) (by decide +kernel)⟩
theorem lw_p38 : lw_okq (⟨"LooksServedModel", "sits", "(IZ)V"⟩, 25) := ⟨⟨by decide +kernel, by decide +kernel⟩, List.mem_of_getElem? (i := 719) (by decide +kernel), List.mem_of_getElem? (i := 959) (by decide +kernel), List.mem_of_getElem? (i := 960) (by decide +kernel)⟩
theorem lw_p39 : lw_okq (⟨"LooksServedModel", "grows", "(I)I"⟩, 25) := ⟨⟨by decide +kernel, by decide +kernel⟩, List.mem_of_getElem? (i := 719) (by decide +kernel), List.mem_of_getElem? (i := 963) (by decide +kernel), List.mem_of_getElem? (i := 964) (by decide +kernel)⟩
theorem lw_p40 : lw_okq (⟨"LooksServedModel", "sumOf", "(I)I"⟩, 25) := ⟨⟨by decide +kernel, by decide +kernel⟩, List.mem_of_getElem? (i := 719) (by decide +kernel), List.mem_of_getElem? (i := 967) (by decide +kernel), List.mem_of_getElem? (i := 968) (by decide +kernel)⟩
theorem lw_p41 : lw_okq (⟨"LooksServedModel", "drawn", "()I"⟩, 25) := ⟨⟨by decide +kernel, by decide +kernel⟩, List.mem_of_getElem? (i := 719) (by decide +kernel), List.mem_of_getElem? (i := 975) (by decide +kernel), List.mem_of_getElem? (i := 976) (by decide +kernel)⟩
theorem lw_p42 : lw_okq (⟨"LooksServedModel", "fed", "(III)I"⟩, 25) := ⟨⟨by decide +kernel, by decide +kernel⟩, List.mem_of_getElem? (i := 719) (by decide +kernel), List.mem_of_getElem? (i := 997) (by decide +kernel), List.mem_of_getElem? (i := 998) (by decide +kernel)⟩
theorem lw_p43 : lw_okq (⟨"LooksServedModel", "moreThan", "([I)I"⟩, 25) := ⟨⟨by decide +kernel, by decide +kernel⟩, List.mem_of_getElem? (i := 719) (by decide +kernel), List.mem_of_getElem? (i := 1001) (by decide +kernel), List.mem_of_getElem? (i := 1002) (by decide +kernel)⟩
theorem lw_p44 : lw_okq (⟨"LooksServedModel", "leastSham", "(II)I"⟩, 25) := ⟨⟨by decide +kernel, by decide +kernel⟩, List.mem_of_getElem? (i := 719) (by decide +kernel), List.mem_of_getElem? (i := 1009) (by decide +kernel), List.mem_of_getElem? (i := 1010) (by decide +kernel)⟩
theorem lw_p45 : lw_okq (⟨"LooksServedModel", "isSoFor", "(I)I"⟩, 25) := ⟨⟨by decide +kernel, by decide +kernel⟩, List.mem_of_getElem? (i := 719) (by decide +kernel), List.mem_of_getElem? (i := 1024) (by decide +kernel), List.mem_of_getElem? (i := 1025) (by decide +kernel)⟩
theorem lw_p46 : lw_okq (⟨"LooksServedModel", "looksIn", "(II)I"⟩, 25) := ⟨⟨by decide +kernel, by decide +kernel⟩, List.mem_of_getElem? (i := 719) (by decide +kernel), List.mem_of_getElem? (i := 1063) (by decide +kernel), List.mem_of_getElem? (i := 1064) (by decide +kernel)⟩
theorem lw_p47 : lw_okq (⟨"LooksServedModel", "ran", "(I)V"⟩, 25) := ⟨⟨by decide +kernel, by decide +kernel⟩, List.mem_of_getElem? (i := 719) (by decide +kernel), List.mem_of_getElem? (i := 1067) (by decide +kernel), List.mem_of_getElem? (i := 1068) (by decide +kernel)⟩
def lw_privs_3 : List (MethodName × Nat) := [(⟨"LooksServedModel", "fails", "()I"⟩, 25), (⟨"LooksServedModel", "moveAll", "([I[I)V"⟩, 25), (⟨"LooksServedModel", "passes", "(I)V"⟩, 25), (⟨"LooksServedModel", "oneStep", "()V"⟩, 25), (⟨"LooksServedModel", "served", "()I"⟩, 25), (⟨"LooksServedModel", "ahead", "(I)I"⟩, 25), (⟨"LooksServedModel", "sits", "(IZ)V"⟩, 25), (⟨"LooksServedModel", "grows", "(I)I"⟩, 25), (⟨"LooksServedModel", "sumOf", "(I)I"⟩, 25), (⟨"LooksServedModel", "drawn", "()I"⟩, 25), (⟨"LooksServedModel", "fed", "(III)I"⟩, 25), (⟨"LooksServedModel", "moreThan", "([I)I"⟩, 25), (⟨"LooksServedModel", "leastSham", "(II)I"⟩, 25), (⟨"LooksServedModel", "isSoFor", "(I)I"⟩, 25), (⟨"LooksServedModel", "looksIn", "(II)I"⟩, 25), (⟨"LooksServedModel", "ran", "(I)V"⟩, 25)]
theorem lw_r3 : ∀ q ∈ lw_privs_3, lw_okq q := List.forall_mem_cons.mpr ⟨lw_p32, List.forall_mem_cons.mpr ⟨lw_p33, List.forall_mem_cons.mpr ⟨lw_p34, List.forall_mem_cons.mpr ⟨lw_p35, List.forall_mem_cons.mpr ⟨lw_p36, List.forall_mem_cons.mpr ⟨lw_p37, List.forall_mem_cons.mpr ⟨lw_p38, List.forall_mem_cons.mpr ⟨lw_p39, List.forall_mem_cons.mpr ⟨lw_p40, List.forall_mem_cons.mpr ⟨lw_p41, List.forall_mem_cons.mpr ⟨lw_p42, List.forall_mem_cons.mpr ⟨lw_p43, List.forall_mem_cons.mpr ⟨lw_p44, List.forall_mem_cons.mpr ⟨lw_p45, List.forall_mem_cons.mpr ⟨lw_p46, List.forall_mem_cons.mpr ⟨lw_p47, fun _ h => absurd h List.not_mem_nil⟩⟩⟩⟩⟩⟩⟩⟩⟩⟩⟩⟩⟩⟩⟩⟩
theorem lw_p48 : lw_okq (⟨"LooksServedModel", "eatsIn", "(II)I"⟩, 25) := ⟨⟨by decide +kernel, by decide +kernel⟩, List.mem_of_getElem? (i := 719) (by decide +kernel), List.mem_of_getElem? (i := 1071) (by decide +kernel), List.mem_of_getElem? (i := 1072) (by decide +kernel)⟩
theorem lw_p49 : lw_okq (⟨"LooksServedModel", "waitsIn", "(II)I"⟩, 25) := ⟨⟨by decide +kernel, by decide +kernel⟩, List.mem_of_getElem? (i := 719) (by decide +kernel), List.mem_of_getElem? (i := 1075) (by decide +kernel), List.mem_of_getElem? (i := 1076) (by decide +kernel)⟩
theorem lw_p50 : lw_okq (⟨"LooksServedModel", "tellsIn", "(II)I"⟩, 25) := ⟨⟨by decide +kernel, by decide +kernel⟩, List.mem_of_getElem? (i := 719) (by decide +kernel), List.mem_of_getElem? (i := 1079) (by decide +kernel), List.mem_of_getElem? (i := 1080) (by decide +kernel)⟩
def lw_privs_4 : List (MethodName × Nat) := [(⟨"LooksServedModel", "eatsIn", "(II)I"⟩, 25), (⟨"LooksServedModel", "waitsIn", "(II)I"⟩, 25), (⟨"LooksServedModel", "tellsIn", "(II)I"⟩, 25)]
theorem lw_r4 : ∀ q ∈ lw_privs_4, lw_okq q := List.forall_mem_cons.mpr ⟨lw_p48, List.forall_mem_cons.mpr ⟨lw_p49, List.forall_mem_cons.mpr ⟨lw_p50, fun _ h => absurd h List.not_mem_nil⟩⟩⟩
def lw_privs : List (MethodName × Nat) := lw_privs_1 ++ (lw_privs_2 ++ (lw_privs_3 ++ (lw_privs_4)))
def lw_tbl : List Cond := k2_sels lw_privs ++ tables_1
theorem lw_privs_ok : ∀ q ∈ lw_privs, lw_okq q := by
  show ∀ q ∈ lw_privs_1 ++ (lw_privs_2 ++ (lw_privs_3 ++ (lw_privs_4))), lw_okq q
  exact List.forall_mem_append.mpr ⟨lw_r1, List.forall_mem_append.mpr ⟨lw_r2, List.forall_mem_append.mpr ⟨lw_r3, lw_r4⟩⟩⟩
def RX0 : String := "LooksServed$Desk"
def TX0 : u_T := fun k => match k with
  | 0 => ("LooksServed$Desk", "z", "I", false)
  | 1 => ("LooksServed$Desk", "tape", "[I", true)
  | 2 => ("LooksServed$Desk", "fed", "I", false)
  | 3 => ("LooksServed$Desk", "waiting", "[I", true)
  | _ => ("LooksServed$Desk", "waits", "I", false)
def tyX0 : Nat → FieldType := fun k => match k with
  | 0 => .int
  | 1 => .array .int
  | 2 => .int
  | 3 => .array .int
  | _ => .int
abbrev wsX00 : List Cond := u_ws RX0 TX0 5
theorem nmX0 : ∀ a, a < 5 → ∀ b, b < 5 → a ≠ b → (TX0 a).2.1 ≠ (TX0 b).2.1 := by decide +kernel
theorem tyX0_ok : ∀ k, k < 5 → parseFieldDescriptor (TX0 k).2.2.1 = some (tyX0 k) := by decide +kernel
abbrev cX0_init : ByteArray := prog_2_method_1_code
def yX0_init : MethodName := ⟨RX0, "<init>", "()V"⟩
abbrev cX0_take : ByteArray := prog_2_method_2_code
def yX0_take : MethodName := ⟨RX0, "take", "(LLooksServed$Desk;)V"⟩
abbrev cX0_draw : ByteArray := prog_2_method_3_code
def yX0_draw : MethodName := ⟨RX0, "draw", "()I"⟩
def RX1 : String := "LooksServed$Law"
def TX1 : u_T := fun k => match k with
  | 0 => ("LooksServed$Law", "codes", "[I", true)
  | _ => ("LooksServed$Law", "worths", "[I", true)
def tyX1 : Nat → FieldType := fun k => match k with
  | 0 => .array .int
  | _ => .array .int
abbrev wsX10 : List Cond := u_ws RX1 TX1 2
theorem nmX1 : ∀ a, a < 2 → ∀ b, b < 2 → a ≠ b → (TX1 a).2.1 ≠ (TX1 b).2.1 := by decide +kernel
theorem tyX1_ok : ∀ k, k < 2 → parseFieldDescriptor (TX1 k).2.2.1 = some (tyX1 k) := by decide +kernel
abbrev cX1_init : ByteArray := prog_3_method_1_code
def yX1_init : MethodName := ⟨RX1, "<init>", "([II)V"⟩
abbrev cX1_worth : ByteArray := prog_3_method_2_code
def yX1_worth : MethodName := ⟨RX1, "worth", "(III)I"⟩
def RX2 : String := "LooksServed$Reader"
def TX2 : u_T := fun k => match k with
  | 0 => ("LooksServed$Reader", "codes", "[I", true)
  | 1 => ("LooksServed$Reader", "size", "I", false)
  | 2 => ("LooksServed$Reader", "tape", "[I", true)
  | 3 => ("LooksServed$Reader", "length", "I", false)
  | 4 => ("LooksServed$Reader", "names", "Ljava/lang/String;", false)
  | 5 => ("LooksServed$Reader", "place", "I", false)
  | _ => ("LooksServed$Reader", "fault", "I", false)
def tyX2 : Nat → FieldType := fun k => match k with
  | 0 => .array .int
  | 1 => .int
  | 2 => .array .int
  | 3 => .int
  | 4 => .object "java/lang/String"
  | 5 => .int
  | _ => .int
abbrev wsX20 : List Cond := u_ws RX2 TX2 7
theorem nmX2 : ∀ a, a < 7 → ∀ b, b < 7 → a ≠ b → (TX2 a).2.1 ≠ (TX2 b).2.1 := by decide +kernel
theorem tyX2_ok : ∀ k, k < 7 → parseFieldDescriptor (TX2 k).2.2.1 = some (tyX2 k) := by decide +kernel
abbrev cX2_init : ByteArray := prog_4_method_1_code
def yX2_init : MethodName := ⟨RX2, "<init>", "([I)V"⟩
abbrev cX2_readTape : ByteArray := prog_4_method_2_code
def yX2_readTape : MethodName := ⟨RX2, "readTape", "(ILjava/lang/String;)I"⟩
abbrev cX2_readLevel : ByteArray := prog_4_method_3_code
def yX2_readLevel : MethodName := ⟨RX2, "readLevel", "(II)V"⟩
abbrev cX2_signsOf : ByteArray := prog_4_method_4_code
def yX2_signsOf : MethodName := ⟨RX2, "signsOf", "(I)Ljava/lang/String;"⟩
abbrev cX2_readQ : ByteArray := prog_4_method_5_code
def yX2_readQ : MethodName := ⟨RX2, "readQ", "(I)V"⟩
abbrev cX2_readNumber : ByteArray := prog_4_method_6_code
def yX2_readNumber : MethodName := ⟨RX2, "readNumber", "()V"⟩
abbrev cX2_isDigit : ByteArray := prog_4_method_7_code
def yX2_isDigit : MethodName := ⟨RX2, "isDigit", "(I)Z"⟩
abbrev cX2_here : ByteArray := prog_4_method_8_code
def yX2_here : MethodName := ⟨RX2, "here", "()I"⟩
abbrev cX2_pass : ByteArray := prog_4_method_9_code
def yX2_pass : MethodName := ⟨RX2, "pass", "(Ljava/lang/String;)I"⟩
abbrev cX2_fail : ByteArray := prog_4_method_10_code
def yX2_fail : MethodName := ⟨RX2, "fail", "()V"⟩
abbrev cX2_add : ByteArray := prog_4_method_11_code
def yX2_add : MethodName := ⟨RX2, "add", "(I)V"⟩
def RX3 : String := "LooksServed$Sheet"
def TX3 : u_T := fun k => match k with
  | 0 => ("LooksServed$Sheet", "bits", "I", false)
  | 1 => ("LooksServed$Sheet", "length", "I", false)
  | _ => ("LooksServed$Sheet", "numbers", "[I", true)
def tyX3 : Nat → FieldType := fun k => match k with
  | 0 => .int
  | 1 => .int
  | _ => .array .int
abbrev wsX30 : List Cond := u_ws RX3 TX3 3
theorem nmX3 : ∀ a, a < 3 → ∀ b, b < 3 → a ≠ b → (TX3 a).2.1 ≠ (TX3 b).2.1 := by decide +kernel
theorem tyX3_ok : ∀ k, k < 3 → parseFieldDescriptor (TX3 k).2.2.1 = some (tyX3 k) := by decide +kernel
abbrev cX3_init : ByteArray := prog_5_method_1_code
def yX3_init : MethodName := ⟨RX3, "<init>", "()V"⟩
abbrev cX3_lay : ByteArray := prog_5_method_2_code
def yX3_lay : MethodName := ⟨RX3, "lay", "(II)V"⟩
abbrev cX3_lowest : ByteArray := prog_5_method_3_code
def yX3_lowest : MethodName := ⟨RX3, "lowest", "(I)I"⟩
abbrev cX3_holds : ByteArray := prog_5_method_4_code
def yX3_holds : MethodName := ⟨RX3, "holds", "(II)Z"⟩
def RX4 : String := "LooksServed$Table"
def TX4 : u_T := fun k => match k with
  | 0 => ("LooksServed$Table", "fill", "[I", true)
  | 1 => ("LooksServed$Table", "kind", "[I", true)
  | 2 => ("LooksServed$Table", "m", "[I", true)
  | 3 => ("LooksServed$Table", "hunger", "[I", true)
  | 4 => ("LooksServed$Table", "sham", "[I", true)
  | 5 => ("LooksServed$Table", "had", "[I", true)
  | 6 => ("LooksServed$Table", "gone", "[Z", true)
  | 7 => ("LooksServed$Table", "faces", "[I", true)
  | 8 => ("LooksServed$Table", "waiters", "I", false)
  | 9 => ("LooksServed$Table", "step", "I", false)
  | 10 => ("LooksServed$Table", "diners", "I", false)
  | 11 => ("LooksServed$Table", "looks", "LLooksServed$Law;", false)
  | _ => ("LooksServed$Table", "bill", "LLooksServed$Law;", false)
def tyX4 : Nat → FieldType := fun k => match k with
  | 0 => .array .int
  | 1 => .array .int
  | 2 => .array .int
  | 3 => .array .int
  | 4 => .array .int
  | 5 => .array .int
  | 6 => .array .boolean
  | 7 => .array .int
  | 8 => .int
  | 9 => .int
  | 10 => .int
  | 11 => .object "LooksServed$Law"
  | _ => .object "LooksServed$Law"
abbrev wsX40 : List Cond := u_ws RX4 TX4 13
theorem nmX4 : ∀ a, a < 13 → ∀ b, b < 13 → a ≠ b → (TX4 a).2.1 ≠ (TX4 b).2.1 := by decide +kernel
theorem tyX4_ok : ∀ k, k < 13 → parseFieldDescriptor (TX4 k).2.2.1 = some (tyX4 k) := by decide +kernel
abbrev cX4_init : ByteArray := prog_6_method_1_code
def yX4_init : MethodName := ⟨RX4, "<init>", "()V"⟩
abbrev cX4_take : ByteArray := prog_6_method_2_code
def yX4_take : MethodName := ⟨RX4, "take", "(LLooksServed$Table;)V"⟩
abbrev cX4_looksBy : ByteArray := prog_6_method_3_code
def yX4_looksBy : MethodName := ⟨RX4, "looksBy", "(III)I"⟩
abbrev cX4_billBy : ByteArray := prog_6_method_4_code
def yX4_billBy : MethodName := ⟨RX4, "billBy", "(III)I"⟩
abbrev cX4_face : ByteArray := prog_6_method_5_code
def yX4_face : MethodName := ⟨RX4, "face", "(I)I"⟩
abbrev cX4_grows : ByteArray := prog_6_method_6_code
def yX4_grows : MethodName := ⟨RX4, "grows", "(I)I"⟩
abbrev cX4_seeFaces : ByteArray := prog_6_method_7_code
def yX4_seeFaces : MethodName := ⟨RX4, "seeFaces", "()V"⟩
abbrev cX4_aheadOf : ByteArray := prog_6_method_8_code
def yX4_aheadOf : MethodName := ⟨RX4, "aheadOf", "(I)I"⟩
abbrev cX4_served : ByteArray := prog_6_method_9_code
def yX4_served : MethodName := ⟨RX4, "served", "()I"⟩
abbrev cX4_serveStep : ByteArray := prog_6_method_10_code
def yX4_serveStep : MethodName := ⟨RX4, "serveStep", "()I"⟩
abbrev cX4_pass : ByteArray := prog_6_method_11_code
def yX4_pass : MethodName := ⟨RX4, "pass", "(IZ)V"⟩
abbrev cX4_goOn : ByteArray := prog_6_method_12_code
def yX4_goOn : MethodName := ⟨RX4, "goOn", "(I)V"⟩
abbrev cX4_stepWithMore : ByteArray := prog_6_method_13_code
def yX4_stepWithMore : MethodName := ⟨RX4, "stepWithMore", "(II)I"⟩
abbrev cX4_isFedBy : ByteArray := prog_6_method_14_code
def yX4_isFedBy : MethodName := ⟨RX4, "isFedBy", "(III)Z"⟩
abbrev cX4_shamAlike : ByteArray := prog_6_method_15_code
def yX4_shamAlike : MethodName := ⟨RX4, "shamAlike", "(II)V"⟩
abbrev cX4_hungerOfAll : ByteArray := prog_6_method_16_code
def yX4_hungerOfAll : MethodName := ⟨RX4, "hungerOfAll", "()I"⟩
abbrev cX4_greatestHunger : ByteArray := prog_6_method_17_code
def yX4_greatestHunger : MethodName := ⟨RX4, "greatestHunger", "()I"⟩
abbrev cX4_hadByAll : ByteArray := prog_6_method_18_code
def yX4_hadByAll : MethodName := ⟨RX4, "hadByAll", "()I"⟩
abbrev cX4_goneOnes : ByteArray := prog_6_method_19_code
def yX4_goneOnes : MethodName := ⟨RX4, "goneOnes", "()I"⟩
def RX5 : String := "LooksServed$Voices"
def TX5 : u_T := fun k => match k with
  | 0 => ("LooksServed$Voices", "number", "I", false)
  | 1 => ("LooksServed$Voices", "m", "I", false)
  | 2 => ("LooksServed$Voices", "kind", "I", false)
  | 3 => ("LooksServed$Voices", "bodies", "[I", true)
  | _ => ("LooksServed$Voices", "begun", "I", false)
def tyX5 : Nat → FieldType := fun k => match k with
  | 0 => .int
  | 1 => .int
  | 2 => .int
  | 3 => .array .int
  | _ => .int
abbrev wsX50 : List Cond := u_ws RX5 TX5 5
theorem nmX5 : ∀ a, a < 5 → ∀ b, b < 5 → a ≠ b → (TX5 a).2.1 ≠ (TX5 b).2.1 := by decide +kernel
theorem tyX5_ok : ∀ k, k < 5 → parseFieldDescriptor (TX5 k).2.2.1 = some (tyX5 k) := by decide +kernel
abbrev cX5_init : ByteArray := prog_7_method_1_code
def yX5_init : MethodName := ⟨RX5, "<init>", "()V"⟩
abbrev cX5_begin : ByteArray := prog_7_method_2_code
def yX5_begin : MethodName := ⟨RX5, "begin", "(I)V"⟩
def RX6 : String := "LooksServed"
def TX6 : u_T := fun k => match k with
  | 0 => ("LooksServed", "now", "LLooksServed$Table;", true)
  | 1 => ("LooksServed", "thought", "LLooksServed$Table;", true)
  | 2 => ("LooksServed", "honest", "LLooksServed$Table;", true)
  | 3 => ("LooksServed", "tableKept", "LLooksServed$Table;", true)
  | 4 => ("LooksServed", "desk", "LLooksServed$Desk;", true)
  | 5 => ("LooksServed", "deskKept", "LLooksServed$Desk;", true)
  | 6 => ("LooksServed", "images", "I", false)
  | 7 => ("LooksServed", "reader", "LLooksServed$Reader;", true)
  | 8 => ("LooksServed", "voices", "LLooksServed$Voices;", true)
  | 9 => ("LooksServed", "sheets", "[LLooksServed$Sheet;", true)
  | _ => ("LooksServed", "errors", "[I", true)
def tyX6 : Nat → FieldType := fun k => match k with
  | 0 => .object "LooksServed$Table"
  | 1 => .object "LooksServed$Table"
  | 2 => .object "LooksServed$Table"
  | 3 => .object "LooksServed$Table"
  | 4 => .object "LooksServed$Desk"
  | 5 => .object "LooksServed$Desk"
  | 6 => .int
  | 7 => .object "LooksServed$Reader"
  | 8 => .object "LooksServed$Voices"
  | 9 => .array (.object "LooksServed$Sheet")
  | _ => .array .int
abbrev wsX60 : List Cond := u_ws RX6 TX6 11
theorem nmX6 : ∀ a, a < 11 → ∀ b, b < 11 → a ≠ b → (TX6 a).2.1 ≠ (TX6 b).2.1 := by decide +kernel
theorem tyX6_ok : ∀ k, k < 11 → parseFieldDescriptor (TX6 k).2.2.1 = some (tyX6 k) := by decide +kernel
abbrev cX6_init : ByteArray := prog_1_method_1_code
def yX6_init : MethodName := ⟨RX6, "<init>", "()V"⟩
abbrev cX6_fills : ByteArray := prog_1_method_2_code
def yX6_fills : MethodName := ⟨RX6, "fills", "(II)I"⟩
abbrev cX6_filling : ByteArray := prog_1_method_3_code
def yX6_filling : MethodName := ⟨RX6, "filling", "(I)I"⟩
abbrev cX6_waiters : ByteArray := prog_1_method_4_code
def yX6_waiters : MethodName := ⟨RX6, "waiters", "(I)I"⟩
abbrev cX6_diner : ByteArray := prog_1_method_5_code
def yX6_diner : MethodName := ⟨RX6, "diner", "(III)I"⟩
abbrev cX6_ofDiner : ByteArray := prog_1_method_6_code
def yX6_ofDiner : MethodName := ⟨RX6, "ofDiner", "(II)I"⟩
abbrev cX6_change : ByteArray := prog_1_method_7_code
def yX6_change : MethodName := ⟨RX6, "change", "(III)I"⟩
abbrev cX6_mostToChangeTo : ByteArray := prog_1_method_8_code
def yX6_mostToChangeTo : MethodName := ⟨RX6, "mostToChangeTo", "(I)I"⟩
abbrev cX6_become : ByteArray := prog_1_method_9_code
def yX6_become : MethodName := ⟨RX6, "become", "(II)I"⟩
abbrev cX6_as : ByteArray := prog_1_method_10_code
def yX6_as : MethodName := ⟨RX6, "as", "(II)I"⟩
abbrev cX6_isUnder : ByteArray := prog_1_method_11_code
def yX6_isUnder : MethodName := ⟨RX6, "isUnder", "(II)Z"⟩
abbrev cX6_feed : ByteArray := prog_1_method_12_code
def yX6_feed : MethodName := ⟨RX6, "feed", "(JI)I"⟩
abbrev cX6_text : ByteArray := prog_1_method_13_code
def yX6_text : MethodName := ⟨RX6, "text", "(I)I"⟩
abbrev cX6_law : ByteArray := prog_1_method_14_code
def yX6_law : MethodName := ⟨RX6, "law", "(IIII)I"⟩
abbrev cX6_steps : ByteArray := prog_1_method_15_code
def yX6_steps : MethodName := ⟨RX6, "steps", "(I)I"⟩
abbrev cX6_loose : ByteArray := prog_1_method_16_code
def yX6_loose : MethodName := ⟨RX6, "loose", "(I)I"⟩
abbrev cX6_drawSham : ByteArray := prog_1_method_17_code
def yX6_drawSham : MethodName := ⟨RX6, "drawSham", "()V"⟩
abbrev cX6_next : ByteArray := prog_1_method_18_code
def yX6_next : MethodName := ⟨RX6, "next", "()I"⟩
abbrev cX6_then : ByteArray := prog_1_method_19_code
def yX6_then : MethodName := ⟨RX6, "then", "(III)I"⟩
abbrev cX6_first : ByteArray := prog_1_method_20_code
def yX6_first : MethodName := ⟨RX6, "first", "(I)I"⟩
abbrev cX6_never : ByteArray := prog_1_method_21_code
def yX6_never : MethodName := ⟨RX6, "never", "()I"⟩
abbrev cX6_sham : ByteArray := prog_1_method_22_code
def yX6_sham : MethodName := ⟨RX6, "sham", "(II)I"⟩
abbrev cX6_alike : ByteArray := prog_1_method_23_code
def yX6_alike : MethodName := ⟨RX6, "alike", "(II)I"⟩
abbrev cX6_haveMore : ByteArray := prog_1_method_24_code
def yX6_haveMore : MethodName := ⟨RX6, "haveMore", "(LLooksServed$Table;I)Z"⟩
abbrev cX6_whose : ByteArray := prog_1_method_25_code
def yX6_whose : MethodName := ⟨RX6, "whose", "(II)I"⟩
abbrev cX6_stepsToldRightly : ByteArray := prog_1_method_26_code
def yX6_stepsToldRightly : MethodName := ⟨RX6, "stepsToldRightly", "(LLooksServed$Sheet;I)I"⟩
abbrev cX6_rank : ByteArray := prog_1_method_27_code
def yX6_rank : MethodName := ⟨RX6, "rank", "(I)I"⟩
abbrev cX6_harm : ByteArray := prog_1_method_28_code
def yX6_harm : MethodName := ⟨RX6, "harm", "(II)I"⟩
abbrev cX6_cramps : ByteArray := prog_1_method_29_code
def yX6_cramps : MethodName := ⟨RX6, "cramps", "(II)I"⟩
abbrev cX6_enough : ByteArray := prog_1_method_30_code
def yX6_enough : MethodName := ⟨RX6, "enough", "(II)I"⟩
abbrev cX6_meals : ByteArray := prog_1_method_31_code
def yX6_meals : MethodName := ⟨RX6, "meals", "(I)I"⟩
abbrev cX6_odds : ByteArray := prog_1_method_32_code
def yX6_odds : MethodName := ⟨RX6, "odds", "(III)I"⟩
abbrev cX6_commonDivisor : ByteArray := prog_1_method_33_code
def yX6_commonDivisor : MethodName := ⟨RX6, "commonDivisor", "(II)I"⟩
abbrev cX6_seed : ByteArray := prog_1_method_34_code
def yX6_seed : MethodName := ⟨RX6, "seed", "(I)I"⟩
abbrev cX6_voice : ByteArray := prog_1_method_35_code
def yX6_voice : MethodName := ⟨RX6, "voice", "(III)I"⟩
abbrev cX6_speak : ByteArray := prog_1_method_36_code
def yX6_speak : MethodName := ⟨RX6, "speak", "(LLooksServed$Voices;IIII)I"⟩
abbrev cX6_ownerOfBody : ByteArray := prog_1_method_37_code
def yX6_ownerOfBody : MethodName := ⟨RX6, "ownerOfBody", "(II)I"⟩
abbrev cX6_trace : ByteArray := prog_1_method_38_code
def yX6_trace : MethodName := ⟨RX6, "trace", "(I)I"⟩
abbrev cX6_sheet : ByteArray := prog_1_method_39_code
def yX6_sheet : MethodName := ⟨RX6, "sheet", "(III)I"⟩
abbrev cX6_put : ByteArray := prog_1_method_40_code
def yX6_put : MethodName := ⟨RX6, "put", "(III)I"⟩
abbrev cX6_move : ByteArray := prog_1_method_41_code
def yX6_move : MethodName := ⟨RX6, "move", "(IIIII)I"⟩
abbrev cX6_shams : ByteArray := prog_1_method_42_code
def yX6_shams : MethodName := ⟨RX6, "shams", "(I)I"⟩
abbrev cX6_judge : ByteArray := prog_1_method_43_code
def yX6_judge : MethodName := ⟨RX6, "judge", "(I)I"⟩
abbrev cX6_image : ByteArray := prog_1_method_44_code
def yX6_image : MethodName := ⟨RX6, "image", "()I"⟩
abbrev cX6_restore : ByteArray := prog_1_method_45_code
def yX6_restore : MethodName := ⟨RX6, "restore", "()I"⟩
abbrev cX6_tell : ByteArray := prog_1_method_46_code
def yX6_tell : MethodName := ⟨RX6, "tell", "(I)I"⟩
abbrev cX6_check : ByteArray := prog_1_method_47_code
def yX6_check : MethodName := ⟨RX6, "check", "()I"⟩
abbrev cX6_count : ByteArray := prog_1_method_48_code
def yX6_count : MethodName := ⟨RX6, "count", "(I)I"⟩
abbrev cX6_told : ByteArray := prog_1_method_49_code
def yX6_told : MethodName := ⟨RX6, "told", "(I)I"⟩
abbrev cX6_error : ByteArray := prog_1_method_50_code
def yX6_error : MethodName := ⟨RX6, "error", "(I)I"⟩
abbrev cX6_within : ByteArray := prog_1_method_51_code
def yX6_within : MethodName := ⟨RX6, "within", "(II)Z"⟩
abbrev cX6_has : ByteArray := prog_1_method_52_code
def yX6_has : MethodName := ⟨RX6, "has", "(II)Z"⟩
abbrev cX6_held : ByteArray := prog_1_method_53_code
def yX6_held : MethodName := ⟨RX6, "held", "(II)I"⟩
abbrev cX6_isDiner : ByteArray := prog_1_method_54_code
def yX6_isDiner : MethodName := ⟨RX6, "isDiner", "(I)Z"⟩
abbrev cX6_think : ByteArray := prog_1_method_55_code
def yX6_think : MethodName := ⟨RX6, "think", "()LLooksServed$Table;"⟩
def RX7 : String := "LooksServedModel"
def TX7 : u_T := fun k => match k with
  | 0 => ("LooksServedModel", "row", "[I", true)
  | 1 => ("LooksServedModel", "kept", "[I", true)
  | 2 => ("LooksServedModel", "tried", "[I", true)
  | 3 => ("LooksServedModel", "before", "[I", true)
  | 4 => ("LooksServedModel", "isKept", "Z", false)
  | 5 => ("LooksServedModel", "images", "I", false)
  | 6 => ("LooksServedModel", "found", "[I", true)
  | 7 => ("LooksServedModel", "use", "I", false)
  | 8 => ("LooksServedModel", "at", "I", false)
  | 9 => ("LooksServedModel", "end", "I", false)
  | 10 => ("LooksServedModel", "open", "I", false)
  | 11 => ("LooksServedModel", "namedA", "I", false)
  | 12 => ("LooksServedModel", "namedB", "I", false)
  | 13 => ("LooksServedModel", "namedC", "I", false)
  | 14 => ("LooksServedModel", "good", "Z", false)
  | 15 => ("LooksServedModel", "bitsOf", "[I", true)
  | 16 => ("LooksServedModel", "sizeOf", "[I", true)
  | 17 => ("LooksServedModel", "sheets", "[I", true)
  | 18 => ("LooksServedModel", "moved", "[I", true)
  | 19 => ("LooksServedModel", "hads", "[I", true)
  | 20 => ("LooksServedModel", "traced", "[I", true)
  | 21 => ("LooksServedModel", "tracedMany", "I", false)
  | 22 => ("LooksServedModel", "voiceKind", "I", false)
  | 23 => ("LooksServedModel", "voiceN", "I", false)
  | _ => ("LooksServedModel", "voiceM", "I", false)
def tyX7 : Nat → FieldType := fun k => match k with
  | 0 => .array .int
  | 1 => .array .int
  | 2 => .array .int
  | 3 => .array .int
  | 4 => .boolean
  | 5 => .int
  | 6 => .array .int
  | 7 => .int
  | 8 => .int
  | 9 => .int
  | 10 => .int
  | 11 => .int
  | 12 => .int
  | 13 => .int
  | 14 => .boolean
  | 15 => .array .int
  | 16 => .array .int
  | 17 => .array .int
  | 18 => .array .int
  | 19 => .array .int
  | 20 => .array .int
  | 21 => .int
  | 22 => .int
  | 23 => .int
  | _ => .int
abbrev wsX70 : List Cond := u_ws RX7 TX7 25
theorem nmX7 : ∀ a, a < 25 → ∀ b, b < 25 → a ≠ b → (TX7 a).2.1 ≠ (TX7 b).2.1 := by decide +kernel
theorem tyX7_ok : ∀ k, k < 25 → parseFieldDescriptor (TX7 k).2.2.1 = some (tyX7 k) := by decide +kernel
abbrev cX7_init : ByteArray := prog_9_method_1_code
def yX7_init : MethodName := ⟨RX7, "<init>", "()V"⟩
abbrev cX7_in : ByteArray := prog_9_method_2_code
def yX7_in : MethodName := ⟨RX7, "in", "(III)Z"⟩
abbrev cX7_errs : ByteArray := prog_9_method_3_code
def yX7_errs : MethodName := ⟨RX7, "errs", "(I)I"⟩
abbrev cX7_held : ByteArray := prog_9_method_4_code
def yX7_held : MethodName := ⟨RX7, "held", "(III)I"⟩
abbrev cX7_moveAll : ByteArray := prog_9_method_5_code
def yX7_moveAll : MethodName := ⟨RX7, "moveAll", "([I[I)V"⟩
abbrev cX7_its : ByteArray := prog_9_method_6_code
def yX7_its : MethodName := ⟨RX7, "its", "(II)I"⟩
abbrev cX7_gets : ByteArray := prog_9_method_7_code
def yX7_gets : MethodName := ⟨RX7, "gets", "(III)V"⟩
abbrev cX7_isDiner : ByteArray := prog_9_method_8_code
def yX7_isDiner : MethodName := ⟨RX7, "isDiner", "(I)Z"⟩
abbrev cX7_becomes : ByteArray := prog_9_method_9_code
def yX7_becomes : MethodName := ⟨RX7, "becomes", "(II)I"⟩
abbrev cX7_fills : ByteArray := prog_9_method_10_code
def yX7_fills : MethodName := ⟨RX7, "fills", "(II)I"⟩
abbrev cX7_filling : ByteArray := prog_9_method_11_code
def yX7_filling : MethodName := ⟨RX7, "filling", "(I)I"⟩
abbrev cX7_waiters : ByteArray := prog_9_method_12_code
def yX7_waiters : MethodName := ⟨RX7, "waiters", "(I)I"⟩
abbrev cX7_diner : ByteArray := prog_9_method_13_code
def yX7_diner : MethodName := ⟨RX7, "diner", "(III)I"⟩
abbrev cX7_ofDiner : ByteArray := prog_9_method_14_code
def yX7_ofDiner : MethodName := ⟨RX7, "ofDiner", "(II)I"⟩
abbrev cX7_change : ByteArray := prog_9_method_15_code
def yX7_change : MethodName := ⟨RX7, "change", "(III)I"⟩
abbrev cX7_become : ByteArray := prog_9_method_16_code
def yX7_become : MethodName := ⟨RX7, "become", "(II)I"⟩
abbrev cX7_above : ByteArray := prog_9_method_17_code
def yX7_above : MethodName := ⟨RX7, "above", "(I)I"⟩
abbrev cX7_as : ByteArray := prog_9_method_18_code
def yX7_as : MethodName := ⟨RX7, "as", "(II)I"⟩
abbrev cX7_byteAt : ByteArray := prog_9_method_19_code
def yX7_byteAt : MethodName := ⟨RX7, "byteAt", "(I)I"⟩
abbrev cX7_isDigit : ByteArray := prog_9_method_20_code
def yX7_isDigit : MethodName := ⟨RX7, "isDigit", "(I)Z"⟩
abbrev cX7_fails : ByteArray := prog_9_method_21_code
def yX7_fails : MethodName := ⟨RX7, "fails", "()I"⟩
abbrev cX7_number : ByteArray := prog_9_method_22_code
def yX7_number : MethodName := ⟨RX7, "number", "()I"⟩
abbrev cX7_named : ByteArray := prog_9_method_23_code
def yX7_named : MethodName := ⟨RX7, "named", "(I)I"⟩
abbrev cX7_factor : ByteArray := prog_9_method_24_code
def yX7_factor : MethodName := ⟨RX7, "factor", "()I"⟩
abbrev cX7_product : ByteArray := prog_9_method_25_code
def yX7_product : MethodName := ⟨RX7, "product", "()I"⟩
abbrev cX7_sum : ByteArray := prog_9_method_26_code
def yX7_sum : MethodName := ⟨RX7, "sum", "()I"⟩
abbrev cX7_compared : ByteArray := prog_9_method_27_code
def yX7_compared : MethodName := ⟨RX7, "compared", "()I"⟩
abbrev cX7_both : ByteArray := prog_9_method_28_code
def yX7_both : MethodName := ⟨RX7, "both", "()I"⟩
abbrev cX7_whole : ByteArray := prog_9_method_29_code
def yX7_whole : MethodName := ⟨RX7, "whole", "()I"⟩
abbrev cX7_walks : ByteArray := prog_9_method_30_code
def yX7_walks : MethodName := ⟨RX7, "walks", "(IIII)I"⟩
abbrev cX7_lawOf : ByteArray := prog_9_method_31_code
def yX7_lawOf : MethodName := ⟨RX7, "lawOf", "(IIII)I"⟩
abbrev cX7_law : ByteArray := prog_9_method_32_code
def yX7_law : MethodName := ⟨RX7, "law", "(IIII)I"⟩
abbrev cX7_feed : ByteArray := prog_9_method_33_code
def yX7_feed : MethodName := ⟨RX7, "feed", "(JI)I"⟩
abbrev cX7_text : ByteArray := prog_9_method_34_code
def yX7_text : MethodName := ⟨RX7, "text", "(I)I"⟩
abbrev cX7_face : ByteArray := prog_9_method_35_code
def yX7_face : MethodName := ⟨RX7, "face", "(I)I"⟩
abbrev cX7_grows : ByteArray := prog_9_method_36_code
def yX7_grows : MethodName := ⟨RX7, "grows", "(I)I"⟩
abbrev cX7_ahead : ByteArray := prog_9_method_37_code
def yX7_ahead : MethodName := ⟨RX7, "ahead", "(I)I"⟩
abbrev cX7_served : ByteArray := prog_9_method_38_code
def yX7_served : MethodName := ⟨RX7, "served", "()I"⟩
abbrev cX7_oneStep : ByteArray := prog_9_method_39_code
def yX7_oneStep : MethodName := ⟨RX7, "oneStep", "()V"⟩
abbrev cX7_sits : ByteArray := prog_9_method_40_code
def yX7_sits : MethodName := ⟨RX7, "sits", "(IZ)V"⟩
abbrev cX7_passes : ByteArray := prog_9_method_41_code
def yX7_passes : MethodName := ⟨RX7, "passes", "(I)V"⟩
abbrev cX7_sumOf : ByteArray := prog_9_method_42_code
def yX7_sumOf : MethodName := ⟨RX7, "sumOf", "(I)I"⟩
abbrev cX7_steps : ByteArray := prog_9_method_43_code
def yX7_steps : MethodName := ⟨RX7, "steps", "(I)I"⟩
abbrev cX7_drawn : ByteArray := prog_9_method_44_code
def yX7_drawn : MethodName := ⟨RX7, "drawn", "()I"⟩
abbrev cX7_loose : ByteArray := prog_9_method_45_code
def yX7_loose : MethodName := ⟨RX7, "loose", "(I)I"⟩
abbrev cX7_next : ByteArray := prog_9_method_46_code
def yX7_next : MethodName := ⟨RX7, "next", "()I"⟩
abbrev cX7_then : ByteArray := prog_9_method_47_code
def yX7_then : MethodName := ⟨RX7, "then", "(III)I"⟩
abbrev cX7_first : ByteArray := prog_9_method_48_code
def yX7_first : MethodName := ⟨RX7, "first", "(I)I"⟩
abbrev cX7_moreThan : ByteArray := prog_9_method_49_code
def yX7_moreThan : MethodName := ⟨RX7, "moreThan", "([I)I"⟩
abbrev cX7_fed : ByteArray := prog_9_method_50_code
def yX7_fed : MethodName := ⟨RX7, "fed", "(III)I"⟩
abbrev cX7_never : ByteArray := prog_9_method_51_code
def yX7_never : MethodName := ⟨RX7, "never", "()I"⟩
abbrev cX7_leastSham : ByteArray := prog_9_method_52_code
def yX7_leastSham : MethodName := ⟨RX7, "leastSham", "(II)I"⟩
abbrev cX7_sham : ByteArray := prog_9_method_53_code
def yX7_sham : MethodName := ⟨RX7, "sham", "(II)I"⟩
abbrev cX7_alike : ByteArray := prog_9_method_54_code
def yX7_alike : MethodName := ⟨RX7, "alike", "(II)I"⟩
abbrev cX7_isSheet : ByteArray := prog_9_method_55_code
def yX7_isSheet : MethodName := ⟨RX7, "isSheet", "(I)Z"⟩
abbrev cX7_isSoFor : ByteArray := prog_9_method_56_code
def yX7_isSoFor : MethodName := ⟨RX7, "isSoFor", "(I)I"⟩
abbrev cX7_whose : ByteArray := prog_9_method_57_code
def yX7_whose : MethodName := ⟨RX7, "whose", "(II)I"⟩
abbrev cX7_rank : ByteArray := prog_9_method_58_code
def yX7_rank : MethodName := ⟨RX7, "rank", "(I)I"⟩
abbrev cX7_harm : ByteArray := prog_9_method_59_code
def yX7_harm : MethodName := ⟨RX7, "harm", "(II)I"⟩
abbrev cX7_cramps : ByteArray := prog_9_method_60_code
def yX7_cramps : MethodName := ⟨RX7, "cramps", "(II)I"⟩
abbrev cX7_enough : ByteArray := prog_9_method_61_code
def yX7_enough : MethodName := ⟨RX7, "enough", "(II)I"⟩
abbrev cX7_meals : ByteArray := prog_9_method_62_code
def yX7_meals : MethodName := ⟨RX7, "meals", "(I)I"⟩
abbrev cX7_divisor : ByteArray := prog_9_method_63_code
def yX7_divisor : MethodName := ⟨RX7, "divisor", "(II)I"⟩
abbrev cX7_odds : ByteArray := prog_9_method_64_code
def yX7_odds : MethodName := ⟨RX7, "odds", "(III)I"⟩
abbrev cX7_seed : ByteArray := prog_9_method_65_code
def yX7_seed : MethodName := ⟨RX7, "seed", "(I)I"⟩
abbrev cX7_ran : ByteArray := prog_9_method_66_code
def yX7_ran : MethodName := ⟨RX7, "ran", "(I)V"⟩
abbrev cX7_looksIn : ByteArray := prog_9_method_67_code
def yX7_looksIn : MethodName := ⟨RX7, "looksIn", "(II)I"⟩
abbrev cX7_waitsIn : ByteArray := prog_9_method_68_code
def yX7_waitsIn : MethodName := ⟨RX7, "waitsIn", "(II)I"⟩
abbrev cX7_eatsIn : ByteArray := prog_9_method_69_code
def yX7_eatsIn : MethodName := ⟨RX7, "eatsIn", "(II)I"⟩
abbrev cX7_tellsIn : ByteArray := prog_9_method_70_code
def yX7_tellsIn : MethodName := ⟨RX7, "tellsIn", "(II)I"⟩
abbrev cX7_voice : ByteArray := prog_9_method_71_code
def yX7_voice : MethodName := ⟨RX7, "voice", "(III)I"⟩
abbrev cX7_trace : ByteArray := prog_9_method_72_code
def yX7_trace : MethodName := ⟨RX7, "trace", "(I)I"⟩
abbrev cX7_narrow : ByteArray := prog_9_method_73_code
def yX7_narrow : MethodName := ⟨RX7, "narrow", "(II)I"⟩
abbrev cX7_sheet : ByteArray := prog_9_method_74_code
def yX7_sheet : MethodName := ⟨RX7, "sheet", "(III)I"⟩
abbrev cX7_put : ByteArray := prog_9_method_75_code
def yX7_put : MethodName := ⟨RX7, "put", "(III)I"⟩
abbrev cX7_move : ByteArray := prog_9_method_76_code
def yX7_move : MethodName := ⟨RX7, "move", "(IIIII)I"⟩
abbrev cX7_shams : ByteArray := prog_9_method_77_code
def yX7_shams : MethodName := ⟨RX7, "shams", "(I)I"⟩
abbrev cX7_judge : ByteArray := prog_9_method_78_code
def yX7_judge : MethodName := ⟨RX7, "judge", "(I)I"⟩
abbrev cX7_image : ByteArray := prog_9_method_79_code
def yX7_image : MethodName := ⟨RX7, "image", "()I"⟩
abbrev cX7_restore : ByteArray := prog_9_method_80_code
def yX7_restore : MethodName := ⟨RX7, "restore", "()I"⟩
abbrev cX7_tell : ByteArray := prog_9_method_81_code
def yX7_tell : MethodName := ⟨RX7, "tell", "(I)I"⟩
abbrev cX7_check : ByteArray := prog_9_method_82_code
def yX7_check : MethodName := ⟨RX7, "check", "()I"⟩
abbrev cX7_count : ByteArray := prog_9_method_83_code
def yX7_count : MethodName := ⟨RX7, "count", "(I)I"⟩
abbrev cX7_told : ByteArray := prog_9_method_84_code
def yX7_told : MethodName := ⟨RX7, "told", "(I)I"⟩
def RJx145de : String := "java/io/Serializable"
def TJx145de : u_T := fun k => match k with
  | _ => ("", "", "", false)
def tyJx145de : Nat → FieldType := fun k => match k with
  | _ => .int
abbrev wsJx145de0 : List Cond := u_ws RJx145de TJx145de 0
theorem nmJx145de : ∀ a, a < 0 → ∀ b, b < 0 → a ≠ b → (TJx145de a).2.1 ≠ (TJx145de b).2.1 := by decide +kernel
theorem tyJx145de_ok : ∀ k, k < 0 → parseFieldDescriptor (TJx145de k).2.2.1 = some (tyJx145de k) := by decide +kernel
def RJx9f9b0 : String := "java/lang/CharSequence"
def TJx9f9b0 : u_T := fun k => match k with
  | _ => ("", "", "", false)
def tyJx9f9b0 : Nat → FieldType := fun k => match k with
  | _ => .int
abbrev wsJx9f9b00 : List Cond := u_ws RJx9f9b0 TJx9f9b0 0
theorem nmJx9f9b0 : ∀ a, a < 0 → ∀ b, b < 0 → a ≠ b → (TJx9f9b0 a).2.1 ≠ (TJx9f9b0 b).2.1 := by decide +kernel
theorem tyJx9f9b0_ok : ∀ k, k < 0 → parseFieldDescriptor (TJx9f9b0 k).2.2.1 = some (tyJx9f9b0 k) := by decide +kernel
def RJ11 : String := "java/lang/Character"
def TJ11 : u_T := fun k => match k with
  | _ => ("", "", "", false)
def tyJ11 : Nat → FieldType := fun k => match k with
  | _ => .int
abbrev wsJ110 : List Cond := u_ws RJ11 TJ11 0
theorem nmJ11 : ∀ a, a < 0 → ∀ b, b < 0 → a ≠ b → (TJ11 a).2.1 ≠ (TJ11 b).2.1 := by decide +kernel
theorem tyJ11_ok : ∀ k, k < 0 → parseFieldDescriptor (TJ11 k).2.2.1 = some (tyJ11 k) := by decide +kernel
abbrev cJ11_isValidCodePoint_9a6ad : ByteArray := prog_10_method_11_code
def yJ11_isValidCodePoint_9a6ad : MethodName := ⟨RJ11, "isValidCodePoint", "(I)Z"⟩
abbrev cJ11_highSurrogate_5068e : ByteArray := prog_10_method_28_code
def yJ11_highSurrogate_5068e : MethodName := ⟨RJ11, "highSurrogate", "(I)C"⟩
abbrev cJ11_lowSurrogate_5068e : ByteArray := prog_10_method_29_code
def yJ11_lowSurrogate_5068e : MethodName := ⟨RJ11, "lowSurrogate", "(I)C"⟩
def RJx8e188 : String := "java/lang/Cloneable"
def TJx8e188 : u_T := fun k => match k with
  | _ => ("", "", "", false)
def tyJx8e188 : Nat → FieldType := fun k => match k with
  | _ => .int
abbrev wsJx8e1880 : List Cond := u_ws RJx8e188 TJx8e188 0
theorem nmJx8e188 : ∀ a, a < 0 → ∀ b, b < 0 → a ≠ b → (TJx8e188 a).2.1 ≠ (TJx8e188 b).2.1 := by decide +kernel
theorem tyJx8e188_ok : ∀ k, k < 0 → parseFieldDescriptor (TJx8e188 k).2.2.1 = some (tyJx8e188 k) := by decide +kernel
def RJxb160c : String := "java/lang/Comparable"
def TJxb160c : u_T := fun k => match k with
  | _ => ("", "", "", false)
def tyJxb160c : Nat → FieldType := fun k => match k with
  | _ => .int
abbrev wsJxb160c0 : List Cond := u_ws RJxb160c TJxb160c 0
theorem nmJxb160c : ∀ a, a < 0 → ∀ b, b < 0 → a ≠ b → (TJxb160c a).2.1 ≠ (TJxb160c b).2.1 := by decide +kernel
theorem tyJxb160c_ok : ∀ k, k < 0 → parseFieldDescriptor (TJxb160c k).2.2.1 = some (tyJxb160c k) := by decide +kernel
def RJ9 : String := "java/lang/Math"
def TJ9 : u_T := fun k => match k with
  | _ => ("", "", "", false)
def tyJ9 : Nat → FieldType := fun k => match k with
  | _ => .int
abbrev wsJ90 : List Cond := u_ws RJ9 TJ9 0
theorem nmJ9 : ∀ a, a < 0 → ∀ b, b < 0 → a ≠ b → (TJ9 a).2.1 ≠ (TJ9 b).2.1 := by decide +kernel
theorem tyJ9_ok : ∀ k, k < 0 → parseFieldDescriptor (TJ9 k).2.2.1 = some (tyJ9 k) := by decide +kernel
abbrev cJ9_max_7cf53 : ByteArray := prog_12_method_65_code
def yJ9_max_7cf53 : MethodName := ⟨RJ9, "max", "(II)I"⟩
abbrev cJ9_min_7cf53 : ByteArray := prog_12_method_69_code
def yJ9_min_7cf53 : MethodName := ⟨RJ9, "min", "(II)I"⟩
def RJ0 : String := "java/lang/String"
def TJ0 : u_T := fun k => match k with
  | _ => ("", "", "", false)
def tyJ0 : Nat → FieldType := fun k => match k with
  | _ => .int
abbrev wsJ00 : List Cond := u_ws RJ0 TJ0 0
theorem nmJ0 : ∀ a, a < 0 → ∀ b, b < 0 → a ≠ b → (TJ0 a).2.1 ≠ (TJ0 b).2.1 := by decide +kernel
theorem tyJ0_ok : ∀ k, k < 0 → parseFieldDescriptor (TJ0 k).2.2.1 = some (tyJ0 k) := by decide +kernel
abbrev cJ0_length_8abf5 : ByteArray := prog_13_method_54_code
def yJ0_length_8abf5 : MethodName := ⟨RJ0, "length", "()I"⟩
abbrev cJ0_indexOf_0f7a4 : ByteArray := prog_13_method_79_code
def yJ0_indexOf_0f7a4 : MethodName := ⟨RJ0, "indexOf", "(I)I"⟩
abbrev cJ0_indexOf_7cf53 : ByteArray := prog_13_method_80_code
def yJ0_indexOf_7cf53 : MethodName := ⟨RJ0, "indexOf", "(II)I"⟩
abbrev cJ0_coder_7d493 : ByteArray := prog_13_method_152_code
def yJ0_coder_7d493 : MethodName := ⟨RJ0, "coder", "()B"⟩
abbrev cJ0_isLatin1_aae02 : ByteArray := prog_13_method_154_code
def yJ0_isLatin1_aae02 : MethodName := ⟨RJ0, "isLatin1", "()Z"⟩
abbrev cJ0_checkBoundsBeginEnd_23922 : ByteArray := prog_13_method_158_code
def yJ0_checkBoundsBeginEnd_23922 : MethodName := ⟨RJ0, "checkBoundsBeginEnd", "(III)V"⟩
def RJ1 : String := "java/lang/StringLatin1"
def TJ1 : u_T := fun k => match k with
  | _ => ("", "", "", false)
def tyJ1 : Nat → FieldType := fun k => match k with
  | _ => .int
abbrev wsJ10 : List Cond := u_ws RJ1 TJ1 0
theorem nmJ1 : ∀ a, a < 0 → ∀ b, b < 0 → a ≠ b → (TJ1 a).2.1 ≠ (TJ1 b).2.1 := by decide +kernel
theorem tyJ1_ok : ∀ k, k < 0 → parseFieldDescriptor (TJ1 k).2.2.1 = some (tyJ1 k) := by decide +kernel
abbrev cJ1_canEncode_9a6ad : ByteArray := prog_14_method_4_code
def yJ1_canEncode_9a6ad : MethodName := ⟨RJ1, "canEncode", "(I)Z"⟩
abbrev cJ1_indexOf_4cfef : ByteArray := prog_14_method_22_code
def yJ1_indexOf_4cfef : MethodName := ⟨RJ1, "indexOf", "([BIII)I"⟩
abbrev cJ1_indexOfChar_4cfef : ByteArray := prog_14_method_23_code
def yJ1_indexOfChar_4cfef : MethodName := ⟨RJ1, "indexOfChar", "([BIII)I"⟩
def RJ2 : String := "java/lang/StringUTF16"
def TJ2 : u_T := fun k => match k with
  | _ => ("", "", "", false)
def tyJ2 : Nat → FieldType := fun k => match k with
  | _ => .int
abbrev wsJ20 : List Cond := u_ws RJ2 TJ2 0
theorem nmJ2 : ∀ a, a < 0 → ∀ b, b < 0 → a ≠ b → (TJ2 a).2.1 ≠ (TJ2 b).2.1 := by decide +kernel
theorem tyJ2_ok : ∀ k, k < 0 → parseFieldDescriptor (TJ2 k).2.2.1 = some (tyJ2 k) := by decide +kernel
abbrev cJ2_getChar_3b067 : ByteArray := prog_15_method_5_code
def yJ2_getChar_3b067 : MethodName := ⟨RJ2, "getChar", "([BI)C"⟩
abbrev cJ2_length_9d52b : ByteArray := prog_15_method_6_code
def yJ2_length_9d52b : MethodName := ⟨RJ2, "length", "([B)I"⟩
abbrev cJ2_indexOf_4cfef : ByteArray := prog_15_method_40_code
def yJ2_indexOf_4cfef : MethodName := ⟨RJ2, "indexOf", "([BIII)I"⟩
abbrev cJ2_indexOfChar_4cfef : ByteArray := prog_15_method_47_code
def yJ2_indexOfChar_4cfef : MethodName := ⟨RJ2, "indexOfChar", "([BIII)I"⟩
abbrev cJ2_indexOfCharUnsafe_4cfef : ByteArray := prog_15_method_48_code
def yJ2_indexOfCharUnsafe_4cfef : MethodName := ⟨RJ2, "indexOfCharUnsafe", "([BIII)I"⟩
abbrev cJ2_indexOfSupplementary_4cfef : ByteArray := prog_15_method_49_code
def yJ2_indexOfSupplementary_4cfef : MethodName := ⟨RJ2, "indexOfSupplementary", "([BIII)I"⟩
abbrev cJ2_checkBoundsBeginEnd_d044e : ByteArray := prog_15_method_93_code
def yJ2_checkBoundsBeginEnd_d044e : MethodName := ⟨RJ2, "checkBoundsBeginEnd", "(II[B)V"⟩
def RJ10 : String := "java/lang/System"
def TJ10 : u_T := fun k => match k with
  | _ => ("", "", "", false)
def tyJ10 : Nat → FieldType := fun k => match k with
  | _ => .int
abbrev wsJ100 : List Cond := u_ws RJ10 TJ10 0
theorem nmJ10 : ∀ a, a < 0 → ∀ b, b < 0 → a ≠ b → (TJ10 a).2.1 ≠ (TJ10 b).2.1 := by decide +kernel
theorem tyJ10_ok : ∀ k, k < 0 → parseFieldDescriptor (TJ10 k).2.2.1 = some (tyJ10 k) := by decide +kernel
def RJxfd54e : String := "java/lang/constant/Constable"
def TJxfd54e : u_T := fun k => match k with
  | _ => ("", "", "", false)
def tyJxfd54e : Nat → FieldType := fun k => match k with
  | _ => .int
abbrev wsJxfd54e0 : List Cond := u_ws RJxfd54e TJxfd54e 0
theorem nmJxfd54e : ∀ a, a < 0 → ∀ b, b < 0 → a ≠ b → (TJxfd54e a).2.1 ≠ (TJxfd54e b).2.1 := by decide +kernel
theorem tyJxfd54e_ok : ∀ k, k < 0 → parseFieldDescriptor (TJxfd54e k).2.2.1 = some (tyJxfd54e k) := by decide +kernel
def RJx3cf43 : String := "java/lang/constant/ConstantDesc"
def TJx3cf43 : u_T := fun k => match k with
  | _ => ("", "", "", false)
def tyJx3cf43 : Nat → FieldType := fun k => match k with
  | _ => .int
abbrev wsJx3cf430 : List Cond := u_ws RJx3cf43 TJx3cf43 0
theorem nmJx3cf43 : ∀ a, a < 0 → ∀ b, b < 0 → a ≠ b → (TJx3cf43 a).2.1 ≠ (TJx3cf43 b).2.1 := by decide +kernel
theorem tyJx3cf43_ok : ∀ k, k < 0 → parseFieldDescriptor (TJx3cf43 k).2.2.1 = some (tyJx3cf43 k) := by decide +kernel
def RJ7 : String := "java/util/Arrays"
def TJ7 : u_T := fun k => match k with
  | _ => ("", "", "", false)
def tyJ7 : Nat → FieldType := fun k => match k with
  | _ => .int
abbrev wsJ70 : List Cond := u_ws RJ7 TJ7 0
theorem nmJ7 : ∀ a, a < 0 → ∀ b, b < 0 → a ≠ b → (TJ7 a).2.1 ≠ (TJ7 b).2.1 := by decide +kernel
theorem tyJ7_ok : ∀ k, k < 0 → parseFieldDescriptor (TJ7 k).2.2.1 = some (tyJ7 k) := by decide +kernel
abbrev cJ7_fill_53178 : ByteArray := prog_17_method_103_code
def yJ7_fill_53178 : MethodName := ⟨RJ7, "fill", "([II)V"⟩
abbrev cJ7_copyOf_59c91 : ByteArray := prog_17_method_123_code
def yJ7_copyOf_59c91 : MethodName := ⟨RJ7, "copyOf", "([II)[I"⟩
def RJ3 : String := "jdk/internal/util/Preconditions"
def TJ3 : u_T := fun k => match k with
  | _ => ("", "", "", false)
def tyJ3 : Nat → FieldType := fun k => match k with
  | _ => .int
abbrev wsJ30 : List Cond := u_ws RJ3 TJ3 0
theorem nmJ3 : ∀ a, a < 0 → ∀ b, b < 0 → a ≠ b → (TJ3 a).2.1 ≠ (TJ3 b).2.1 := by decide +kernel
theorem tyJ3_ok : ∀ k, k < 0 → parseFieldDescriptor (TJ3 k).2.2.1 = some (tyJ3 k) := by decide +kernel
abbrev cJ3_checkFromToIndex_8c36e : ByteArray := prog_18_method_12_code
def yJ3_checkFromToIndex_8c36e : MethodName := ⟨RJ3, "checkFromToIndex", "(IIILjava/util/function/BiFunction;)I"⟩
def RL : String := "LooksServedLaw"
abbrev cL_law : ByteArray := code
def yL_law : MethodName := ⟨RL, "law", "([I)Z"⟩
abbrev vwCl : List vw_C := [(RX0, TX0, 5), (RX1, TX1, 2), (RX2, TX2, 7), (RX3, TX3, 3), (RX4, TX4, 13), (RX5, TX5, 5), (RX6, TX6, 11), (RX7, TX7, 25)]
end
section
/-- an instruction, where the next one begins, a kind, what it resolves to (two numbers), its constant -/
abbrev RI : Type := Instr × Nat × Nat × Nat × Nat × Int32
def clsN : Nat → String := fun n => match n with
  | 0 => "LooksServed$Desk"
  | 1 => "LooksServed$Law"
  | 2 => "LooksServed$Reader"
  | 3 => "LooksServed$Sheet"
  | 4 => "LooksServed$Table"
  | 5 => "LooksServed$Voices"
  | 6 => "LooksServed"
  | 7 => "LooksServedModel"
  | 8 => "LooksServedLaw"
  | 60 => "java/lang/String"
  | 61 => "java/lang/StringLatin1"
  | 62 => "java/util/Arrays"
  | 63 => "java/lang/Math"
  | _ => ""
def TT : Nat → u_T := fun n => match n with
  | 0 => TX0
  | 1 => TX1
  | 2 => TX2
  | 3 => TX3
  | 4 => TX4
  | 5 => TX5
  | 6 => TX6
  | _ => TX7
def tyT : Nat → Nat → FieldType := fun n => match n with
  | 0 => tyX0
  | 1 => tyX1
  | 2 => tyX2
  | 3 => tyX3
  | 4 => tyX4
  | 5 => tyX5
  | 6 => tyX6
  | _ => tyX7
def nfT : Nat → Nat := fun n => match n with
  | 0 => 5
  | 1 => 2
  | 2 => 7
  | 3 => 3
  | 4 => 13
  | 5 => 5
  | 6 => 11
  | _ => 25
set_option maxRecDepth 20000 in
noncomputable def tb_0 : List (Option RI) := [some (.getstatic 38, 3, 0, 99, 0, 1), none, none, some (.ifCond .eq 14, 6, 0, 17, 0, 0), none, none, some (.aload_n 0, 7, 0, 0, 0, 0), some (.getfield 15, 10, 0, 60, 1, 0), none, none, some (.ifCond .ne 7, 13, 0, 17, 0, 0), none, none, some (.iconst 1, 14, 0, 0, 0, 1), some (.goto 4, 17, 0, 18, 0, 0), none, none, some (.iconst 0, 18, 0, 0, 0, 0), some (.ireturn, 19, 0, 0, 0, 0)]
set_option maxRecDepth 20000 in
noncomputable def tb_1 : List (Option RI) := [some (.getstatic 38, 3, 0, 99, 0, 1), none, none, some (.ifCond .eq 10, 6, 0, 13, 0, 0), none, none, some (.aload_n 0, 7, 0, 0, 0, 0), some (.getfield 15, 10, 0, 60, 1, 0), none, none, some (.goto 4, 13, 0, 14, 0, 0), none, none, some (.iconst 1, 14, 0, 0, 0, 1), some (.ireturn, 15, 0, 0, 0, 0)]
set_option maxRecDepth 20000 in
noncomputable def tb_2 : List (Option RI) := [some (.aload_n 0, 1, 0, 0, 0, 0), some (.getfield 9, 4, 0, 60, 0, 0), none, none, some (.arraylength, 5, 0, 0, 0, 0), some (.aload_n 0, 6, 0, 0, 0, 0), some (.invokevirtual 335, 9, 20, 1, 0, 0), none, none, some (.ishr, 10, 0, 0, 0, 0), some (.ireturn, 11, 0, 0, 0, 0)]
set_option maxRecDepth 20000 in
noncomputable def tb_3 : List (Option RI) := [some (.aload_n 0, 1, 0, 0, 0, 0), some (.invokevirtual 492, 4, 20, 0, 0, 0), none, none, some (.ifCond .eq 19, 7, 0, 23, 0, 0), none, none, some (.aload_n 0, 8, 0, 0, 0, 0), some (.getfield 9, 11, 0, 60, 0, 0), none, none, some (.iload_n 1, 12, 0, 0, 0, 0), some (.iload_n 2, 13, 0, 0, 0, 0), some (.aload_n 0, 14, 0, 0, 0, 0), some (.invokevirtual 505, 17, 20, 2, 0, 0), none, none, some (.invokestatic 637, 20, 0, 7, 4, 0), none, none, some (.goto 16, 23, 0, 36, 0, 0), none, none, some (.aload_n 0, 24, 0, 0, 0, 0), some (.getfield 9, 27, 0, 60, 0, 0), none, none, some (.iload_n 1, 28, 0, 0, 0, 0), some (.iload_n 2, 29, 0, 0, 0, 0), some (.aload_n 0, 30, 0, 0, 0, 0), some (.invokevirtual 505, 33, 20, 2, 0, 0), none, none, none, none, none, some (.ireturn, 37, 0, 0, 0, 0)]
set_option maxRecDepth 20000 in
noncomputable def tb_4 : List (Option RI) := [some (.aload_n 0, 1, 0, 0, 0, 0), some (.iload_n 1, 2, 0, 0, 0, 0), some (.iconst 0, 3, 0, 0, 0, 0), some (.invokevirtual 633, 6, 20, 3, 2, 0), none, none, some (.ireturn, 7, 0, 0, 0, 0)]
set_option maxRecDepth 20000 in
noncomputable def tb_5 : List (Option RI) := [some (.iload_n 0, 1, 0, 0, 0, 0), some (.ifCond .lt 14, 4, 0, 15, 0, 0), none, none, some (.iload_n 0, 5, 0, 0, 0, 0), some (.sipush 255, 8, 0, 0, 0, 255), none, none, some (.if_icmp .gt 7, 11, 0, 15, 0, 0), none, none, some (.iconst 1, 12, 0, 0, 0, 1), some (.goto 4, 15, 0, 16, 0, 0), none, none, some (.iconst 0, 16, 0, 0, 0, 0), some (.ireturn, 17, 0, 0, 0, 0)]
set_option maxRecDepth 20000 in
noncomputable def tb_6 : List (Option RI) := [some (.iload_n 1, 1, 0, 0, 0, 0), some (.i2b, 2, 0, 0, 0, 0), some (.istore 4, 4, 0, 0, 0, 0), none, some (.iload_n 2, 5, 0, 0, 0, 0), some (.istore 5, 7, 0, 0, 0, 0), none, some (.iload 5, 9, 0, 0, 0, 0), none, some (.iload_n 3, 10, 0, 0, 0, 0), some (.if_icmp .ge 21, 13, 0, 31, 0, 0), none, none, some (.aload_n 0, 14, 0, 0, 0, 0), some (.iload 5, 16, 0, 0, 0, 0), none, some (.baload, 17, 0, 0, 0, 0), some (.iload 4, 19, 0, 0, 0, 0), none, some (.if_icmp .ne 6, 22, 0, 25, 0, 0), none, none, some (.iload 5, 24, 0, 0, 0, 0), none, some (.ireturn, 25, 0, 0, 0, 0), some (.iinc 5 1, 28, 0, 0, 0, 1), none, none, some (.goto (-21), 31, 0, 7, 0, 0), none, none, some (.iconst (-1), 32, 0, 0, 0, -1), some (.ireturn, 33, 0, 0, 0, 0)]
set_option maxRecDepth 20000 in
noncomputable def tb_7 : List (Option RI) := [some (.iload_n 1, 1, 0, 0, 0, 0), some (.invokestatic 88, 4, 0, 5, 1, 0), none, none, some (.ifCond .ne 5, 7, 0, 9, 0, 0), none, none, some (.iconst (-1), 8, 0, 0, 0, -1), some (.ireturn, 9, 0, 0, 0, 0), some (.iload_n 2, 10, 0, 0, 0, 0), some (.iconst 0, 11, 0, 0, 0, 0), some (.invokestatic 92, 14, 2, 0, 2, 0), none, none, some (.istore_n 2, 15, 0, 0, 0, 0), some (.iload_n 3, 16, 0, 0, 0, 0), some (.aload_n 0, 17, 0, 0, 0, 0), some (.arraylength, 18, 0, 0, 0, 0), some (.invokestatic 38, 21, 3, 0, 2, 0), none, none, some (.istore_n 3, 22, 0, 0, 0, 0), some (.iload_n 2, 23, 0, 0, 0, 0), some (.iload_n 3, 24, 0, 0, 0, 0), some (.if_icmp .lt 5, 27, 0, 29, 0, 0), none, none, some (.iconst (-1), 28, 0, 0, 0, -1), some (.ireturn, 29, 0, 0, 0, 0), some (.aload_n 0, 30, 0, 0, 0, 0), some (.iload_n 1, 31, 0, 0, 0, 0), some (.iload_n 2, 32, 0, 0, 0, 0), some (.iload_n 3, 33, 0, 0, 0, 0), some (.invokestatic 95, 36, 0, 6, 4, 0), none, none, some (.ireturn, 37, 0, 0, 0, 0)]
set_option maxRecDepth 20000 in
noncomputable def tb_8 : List (Option RI) := [some (.iload_n 1, 1, 0, 0, 0, 0), some (.aload_n 0, 2, 0, 0, 0, 0), some (.arraylength, 3, 0, 0, 0, 0), some (.if_icmp .ne 11, 6, 0, 14, 0, 0), none, none, some (.aload_n 0, 7, 0, 0, 0, 0), some (.invokevirtual 316, 10, 5, 0, 0, 0), none, none, some (.checkcast 317, 13, 0, 0, 0, 0), none, none, some (.areturn, 14, 0, 0, 0, 0), some (.iload_n 1, 15, 0, 0, 0, 0), some (.newarray .int, 17, 0, 0, 0, 0), none, some (.astore_n 2, 18, 0, 0, 0, 0), some (.aload_n 0, 19, 0, 0, 0, 0), some (.iconst 0, 20, 0, 0, 0, 0), some (.aload_n 2, 21, 0, 0, 0, 0), some (.iconst 0, 22, 0, 0, 0, 0), some (.aload_n 0, 23, 0, 0, 0, 0), some (.arraylength, 24, 0, 0, 0, 0), some (.iload_n 1, 25, 0, 0, 0, 0), some (.invokestatic 304, 28, 3, 0, 2, 0), none, none, some (.invokestatic 150, 31, 4, 0, 5, 0), none, none, some (.aload_n 2, 32, 0, 0, 0, 0), some (.areturn, 33, 0, 0, 0, 0)]
set_option maxRecDepth 20000 in
noncomputable def tb_9 : List (Option RI) := [some (.iconst 0, 1, 0, 0, 0, 0), some (.istore_n 2, 2, 0, 0, 0, 0), some (.aload_n 0, 3, 0, 0, 0, 0), some (.arraylength, 4, 0, 0, 0, 0), some (.istore_n 3, 5, 0, 0, 0, 0), some (.iload_n 2, 6, 0, 0, 0, 0), some (.iload_n 3, 7, 0, 0, 0, 0), some (.if_icmp .ge 13, 10, 0, 20, 0, 0), none, none, some (.aload_n 0, 11, 0, 0, 0, 0), some (.iload_n 2, 12, 0, 0, 0, 0), some (.iload_n 1, 13, 0, 0, 0, 0), some (.iastore, 14, 0, 0, 0, 0), some (.iinc 2 1, 17, 0, 0, 0, 1), none, none, some (.goto (-12), 20, 0, 5, 0, 0), none, none, some (.return_, 21, 0, 0, 0, 0)]
set_option maxRecDepth 20000 in
noncomputable def tb_10 : List (Option RI) := [some (.aload_n 0, 1, 0, 0, 0, 0), some (.invokespecial 3, 4, 12, 0, 0, 0), none, none, some (.aload_n 0, 5, 0, 0, 0, 0), some (.iconst 1, 6, 0, 0, 0, 1), some (.putfield 9, 9, 0, 0, 0, 0), none, none, some (.aload_n 0, 10, 0, 0, 0, 0), some (.bipush 50, 12, 0, 0, 0, 50), none, some (.newarray .int, 14, 0, 0, 0, 0), none, some (.putfield 15, 17, 0, 0, 1, 0), none, none, some (.aload_n 0, 18, 0, 0, 0, 0), some (.iconst 0, 19, 0, 0, 0, 0), some (.putfield 19, 22, 0, 0, 2, 0), none, none, some (.aload_n 0, 23, 0, 0, 0, 0), some (.bipush 20, 25, 0, 0, 0, 20), none, some (.newarray .int, 27, 0, 0, 0, 0), none, some (.putfield 22, 30, 0, 0, 3, 0), none, none, some (.aload_n 0, 31, 0, 0, 0, 0), some (.iconst 0, 32, 0, 0, 0, 0), some (.putfield 25, 35, 0, 0, 4, 0), none, none, some (.return_, 36, 0, 0, 0, 0)]
set_option maxRecDepth 20000 in
noncomputable def tb_11 : List (Option RI) := [some (.aload_n 0, 1, 0, 0, 0, 0), some (.aload_n 1, 2, 0, 0, 0, 0), some (.getfield 9, 5, 0, 0, 0, 0), none, none, some (.putfield 9, 8, 0, 0, 0, 0), none, none, some (.aload_n 1, 9, 0, 0, 0, 0), some (.getfield 15, 12, 0, 0, 1, 0), none, none, some (.iconst 0, 13, 0, 0, 0, 0), some (.aload_n 0, 14, 0, 0, 0, 0), some (.getfield 15, 17, 0, 0, 1, 0), none, none, some (.iconst 0, 18, 0, 0, 0, 0), some (.bipush 50, 20, 0, 0, 0, 50), none, some (.invokestatic 28, 23, 4, 0, 5, 0), none, none, some (.aload_n 0, 24, 0, 0, 0, 0), some (.aload_n 1, 25, 0, 0, 0, 0), some (.getfield 19, 28, 0, 0, 2, 0), none, none, some (.putfield 19, 31, 0, 0, 2, 0), none, none, some (.aload_n 1, 32, 0, 0, 0, 0), some (.getfield 22, 35, 0, 0, 3, 0), none, none, some (.iconst 0, 36, 0, 0, 0, 0), some (.aload_n 0, 37, 0, 0, 0, 0), some (.getfield 22, 40, 0, 0, 3, 0), none, none, some (.iconst 0, 41, 0, 0, 0, 0), some (.bipush 20, 43, 0, 0, 0, 20), none, some (.invokestatic 28, 46, 4, 0, 5, 0), none, none, some (.aload_n 0, 47, 0, 0, 0, 0), some (.aload_n 1, 48, 0, 0, 0, 0), some (.getfield 25, 51, 0, 0, 4, 0), none, none, some (.putfield 25, 54, 0, 0, 4, 0), none, none, some (.return_, 55, 0, 0, 0, 0)]
set_option maxRecDepth 20000 in
noncomputable def tb_12 : List (Option RI) := [some (.aload_n 0, 1, 0, 0, 0, 0), some (.aload_n 0, 2, 0, 0, 0, 0), some (.getfield 9, 5, 0, 0, 0, 0), none, none, some (.ldc 34, 7, 0, 0, 0, 1103515245), none, some (.imul, 8, 0, 0, 0, 0), some (.sipush 12345, 11, 0, 0, 0, 12345), none, none, some (.iadd, 12, 0, 0, 0, 0), some (.putfield 9, 15, 0, 0, 0, 0), none, none, some (.aload_n 0, 16, 0, 0, 0, 0), some (.getfield 9, 19, 0, 0, 0, 0), none, none, some (.bipush 8, 21, 0, 0, 0, 8), none, some (.iushr, 22, 0, 0, 0, 0), some (.ireturn, 23, 0, 0, 0, 0)]
set_option maxRecDepth 20000 in
noncomputable def tb_13 : List (Option RI) := [some (.aload_n 0, 1, 0, 0, 0, 0), some (.invokespecial 3, 4, 12, 0, 0, 0), none, none, some (.aload_n 0, 5, 0, 0, 0, 0), some (.aload_n 1, 6, 0, 0, 0, 0), some (.iload_n 2, 7, 0, 0, 0, 0), some (.invokestatic 9, 10, 0, 8, 2, 0), none, none, some (.putfield 15, 13, 0, 1, 0, 0), none, none, some (.aload_n 0, 14, 0, 0, 0, 0), some (.iload_n 2, 15, 0, 0, 0, 0), some (.newarray .int, 17, 0, 0, 0, 0), none, some (.putfield 21, 20, 0, 1, 1, 0), none, none, some (.return_, 21, 0, 0, 0, 0)]
set_option maxRecDepth 20000 in
noncomputable def tb_14 : List (Option RI) := [some (.iconst 0, 1, 0, 0, 0, 0), some (.istore 4, 3, 0, 0, 0, 0), none, some (.iconst 0, 4, 0, 0, 0, 0), some (.istore 5, 6, 0, 0, 0, 0), none, some (.iload 5, 8, 0, 0, 0, 0), none, some (.aload_n 0, 9, 0, 0, 0, 0), some (.getfield 15, 12, 0, 1, 0, 0), none, none, some (.arraylength, 13, 0, 0, 0, 0), some (.if_icmp .ge 511, 16, 0, 524, 0, 0), none, none, some (.aload_n 0, 17, 0, 0, 0, 0), some (.getfield 15, 20, 0, 1, 0, 0), none, none, some (.iload 5, 22, 0, 0, 0, 0), none, some (.iaload, 23, 0, 0, 0, 0), some (.istore 6, 25, 0, 0, 0, 0), none, some (.iload 6, 27, 0, 0, 0, 0), none, some (.sipush 1000, 30, 0, 0, 0, 1000), none, none, some (.if_icmp .ge 9, 33, 0, 39, 0, 0), none, none, some (.iload 6, 35, 0, 0, 0, 0), none, some (.iconst 3, 36, 0, 0, 0, 3), some (.if_icmp .ge 7, 39, 0, 43, 0, 0), none, none, some (.iconst 0, 40, 0, 0, 0, 0), some (.goto 15, 43, 0, 55, 0, 0), none, none, some (.iload 6, 45, 0, 0, 0, 0), none, some (.bipush 33, 47, 0, 0, 0, 33), none, some (.if_icmp .ne 7, 50, 0, 54, 0, 0), none, none, some (.iconst 1, 51, 0, 0, 0, 1), some (.goto 4, 54, 0, 55, 0, 0), none, none, some (.iconst 2, 55, 0, 0, 0, 2), some (.istore 7, 57, 0, 0, 0, 0), none, some (.iload 4, 59, 0, 0, 0, 0), none, some (.iload 7, 61, 0, 0, 0, 0), none, some (.isub, 62, 0, 0, 0, 0), some (.istore 4, 64, 0, 0, 0, 0), none, some (.iload 4, 66, 0, 0, 0, 0), none, some (.ifCond .lt 13, 69, 0, 79, 0, 0), none, none, some (.iload 4, 71, 0, 0, 0, 0), none, some (.aload_n 0, 72, 0, 0, 0, 0), some (.getfield 21, 75, 0, 1, 1, 0), none, none, some (.arraylength, 76, 0, 0, 0, 0), some (.if_icmp .lt 5, 79, 0, 81, 0, 0), none, none, some (.iconst 0, 80, 0, 0, 0, 0), some (.ireturn, 81, 0, 0, 0, 0), some (.aload_n 0, 82, 0, 0, 0, 0), some (.getfield 21, 85, 0, 1, 1, 0), none, none, some (.iload 4, 87, 0, 0, 0, 0), none, some (.iaload, 88, 0, 0, 0, 0), some (.istore 8, 90, 0, 0, 0, 0), none, some (.iload 4, 92, 0, 0, 0, 0), none, some (.iconst 1, 93, 0, 0, 0, 1), some (.iadd, 94, 0, 0, 0, 0), some (.aload_n 0, 95, 0, 0, 0, 0), some (.getfield 21, 98, 0, 1, 1, 0), none, none, some (.arraylength, 99, 0, 0, 0, 0), some (.if_icmp .ge 15, 102, 0, 114, 0, 0), none, none, some (.aload_n 0, 103, 0, 0, 0, 0), some (.getfield 21, 106, 0, 1, 1, 0), none, none, some (.iload 4, 108, 0, 0, 0, 0), none, some (.iconst 1, 109, 0, 0, 0, 1), some (.iadd, 110, 0, 0, 0, 0), some (.iaload, 111, 0, 0, 0, 0), some (.goto 4, 114, 0, 115, 0, 0), none, none, some (.iconst 0, 115, 0, 0, 0, 0), some (.istore 9, 117, 0, 0, 0, 0), none, some (.iload 6, 119, 0, 0, 0, 0), none, some (.lookupswitch 383 #[(0, 121), (1, 132), (2, 143), (33, 154), (37, 243), (38, 333), (42, 204), (43, 174), (45, 189), (47, 219), (60, 267), (61, 289), (62, 311), (124, 358)], 240, 0, 0, 0, 0), none, none, none, none, none, none, none, none, none, none, none, none, none, none, none, none, none, none, none, none, none, none, none, none, none, none, none, none, none, none, none, none, none, none, none, none, none, none, none, none, none, none, none, none, none, none, none, none, none, none, none, none, none, none, none, none, none, none, none, none, none, none, none, none, none, none, none, none, none, none, none, none, none, none, none, none, none, none, none, none, none, none, none, none, none, none, none, none, none, none, none, none, none, none, none, none, none, none, none, none, none, none, none, none, none, none, none, none, none, none, none, none, none, none, none, none, none, none, none, none, some (.aload_n 0, 241, 0, 0, 0, 0), some (.getfield 21, 244, 0, 1, 1, 0), none, none, some (.iload 4, 246, 0, 0, 0, 0), none, some (.iload_n 1, 247, 0, 0, 0, 0), some (.iastore, 248, 0, 0, 0, 0), some (.goto 267, 251, 0, 515, 0, 0), none, none, some (.aload_n 0, 252, 0, 0, 0, 0), some (.getfield 21, 255, 0, 1, 1, 0), none, none, some (.iload 4, 257, 0, 0, 0, 0), none, some (.iload_n 2, 258, 0, 0, 0, 0), some (.iastore, 259, 0, 0, 0, 0), some (.goto 256, 262, 0, 515, 0, 0), none, none, some (.aload_n 0, 263, 0, 0, 0, 0), some (.getfield 21, 266, 0, 1, 1, 0), none, none, some (.iload 4, 268, 0, 0, 0, 0), none, some (.iload_n 3, 269, 0, 0, 0, 0), some (.iastore, 270, 0, 0, 0, 0), some (.goto 245, 273, 0, 515, 0, 0), none, none, some (.aload_n 0, 274, 0, 0, 0, 0), some (.getfield 21, 277, 0, 1, 1, 0), none, none, some (.iload 4, 279, 0, 0, 0, 0), none, some (.iload 8, 281, 0, 0, 0, 0), none, some (.ifCond .ne 7, 284, 0, 288, 0, 0), none, none, some (.iconst 1, 285, 0, 0, 0, 1), some (.goto 4, 288, 0, 289, 0, 0), none, none, some (.iconst 0, 289, 0, 0, 0, 0), some (.iastore, 290, 0, 0, 0, 0), some (.goto 225, 293, 0, 515, 0, 0), none, none, some (.aload_n 0, 294, 0, 0, 0, 0), some (.getfield 21, 297, 0, 1, 1, 0), none, none, some (.iload 4, 299, 0, 0, 0, 0), none, some (.iload 8, 301, 0, 0, 0, 0), none, some (.iload 9, 303, 0, 0, 0, 0), none, some (.iadd, 304, 0, 0, 0, 0), some (.iastore, 305, 0, 0, 0, 0), some (.goto 210, 308, 0, 515, 0, 0), none, none, some (.aload_n 0, 309, 0, 0, 0, 0), some (.getfield 21, 312, 0, 1, 1, 0), none, none, some (.iload 4, 314, 0, 0, 0, 0), none, some (.iload 8, 316, 0, 0, 0, 0), none, some (.iload 9, 318, 0, 0, 0, 0), none, some (.isub, 319, 0, 0, 0, 0), some (.iastore, 320, 0, 0, 0, 0), some (.goto 195, 323, 0, 515, 0, 0), none, none, some (.aload_n 0, 324, 0, 0, 0, 0), some (.getfield 21, 327, 0, 1, 1, 0), none, none, some (.iload 4, 329, 0, 0, 0, 0), none, some (.iload 8, 331, 0, 0, 0, 0), none, some (.iload 9, 333, 0, 0, 0, 0), none, some (.imul, 334, 0, 0, 0, 0), some (.iastore, 335, 0, 0, 0, 0), some (.goto 180, 338, 0, 515, 0, 0), none, none, some (.aload_n 0, 339, 0, 0, 0, 0), some (.getfield 21, 342, 0, 1, 1, 0), none, none, some (.iload 4, 344, 0, 0, 0, 0), none, some (.iload 9, 346, 0, 0, 0, 0), none, some (.ifCond .ne 7, 349, 0, 353, 0, 0), none, none, some (.iconst 0, 350, 0, 0, 0, 0), some (.goto 8, 353, 0, 358, 0, 0), none, none, some (.iload 8, 355, 0, 0, 0, 0), none, some (.iload 9, 357, 0, 0, 0, 0), none, some (.idiv, 358, 0, 0, 0, 0), some (.iastore, 359, 0, 0, 0, 0), some (.goto 156, 362, 0, 515, 0, 0), none, none, some (.aload_n 0, 363, 0, 0, 0, 0), some (.getfield 21, 366, 0, 1, 1, 0), none, none, some (.iload 4, 368, 0, 0, 0, 0), none, some (.iload 9, 370, 0, 0, 0, 0), none, some (.ifCond .ne 7, 373, 0, 377, 0, 0), none, none, some (.iconst 0, 374, 0, 0, 0, 0), some (.goto 8, 377, 0, 382, 0, 0), none, none, some (.iload 8, 379, 0, 0, 0, 0), none, some (.iload 9, 381, 0, 0, 0, 0), none, some (.irem, 382, 0, 0, 0, 0), some (.iastore, 383, 0, 0, 0, 0), some (.goto 132, 386, 0, 515, 0, 0), none, none, some (.aload_n 0, 387, 0, 0, 0, 0), some (.getfield 21, 390, 0, 1, 1, 0), none, none, some (.iload 4, 392, 0, 0, 0, 0), none, some (.iload 8, 394, 0, 0, 0, 0), none, some (.iload 9, 396, 0, 0, 0, 0), none, some (.if_icmp .ge 7, 399, 0, 403, 0, 0), none, none, some (.iconst 1, 400, 0, 0, 0, 1), some (.goto 4, 403, 0, 404, 0, 0), none, none, some (.iconst 0, 404, 0, 0, 0, 0), some (.iastore, 405, 0, 0, 0, 0), some (.goto 110, 408, 0, 515, 0, 0), none, none, some (.aload_n 0, 409, 0, 0, 0, 0), some (.getfield 21, 412, 0, 1, 1, 0), none, none, some (.iload 4, 414, 0, 0, 0, 0), none, some (.iload 8, 416, 0, 0, 0, 0), none, some (.iload 9, 418, 0, 0, 0, 0), none, some (.if_icmp .ne 7, 421, 0, 425, 0, 0), none, none, some (.iconst 1, 422, 0, 0, 0, 1), some (.goto 4, 425, 0, 426, 0, 0), none, none, some (.iconst 0, 426, 0, 0, 0, 0), some (.iastore, 427, 0, 0, 0, 0), some (.goto 88, 430, 0, 515, 0, 0), none, none, some (.aload_n 0, 431, 0, 0, 0, 0), some (.getfield 21, 434, 0, 1, 1, 0), none, none, some (.iload 4, 436, 0, 0, 0, 0), none, some (.iload 8, 438, 0, 0, 0, 0), none, some (.iload 9, 440, 0, 0, 0, 0), none, some (.if_icmp .le 7, 443, 0, 447, 0, 0), none, none, some (.iconst 1, 444, 0, 0, 0, 1), some (.goto 4, 447, 0, 448, 0, 0), none, none, some (.iconst 0, 448, 0, 0, 0, 0), some (.iastore, 449, 0, 0, 0, 0), some (.goto 66, 452, 0, 515, 0, 0), none, none, some (.aload_n 0, 453, 0, 0, 0, 0), some (.getfield 21, 456, 0, 1, 1, 0), none, none, some (.iload 4, 458, 0, 0, 0, 0), none, some (.iload 8, 460, 0, 0, 0, 0), none, some (.ifCond .eq 12, 463, 0, 472, 0, 0), none, none, some (.iload 9, 465, 0, 0, 0, 0), none, some (.ifCond .eq 7, 468, 0, 472, 0, 0), none, none, some (.iconst 1, 469, 0, 0, 0, 1), some (.goto 4, 472, 0, 473, 0, 0), none, none, some (.iconst 0, 473, 0, 0, 0, 0), some (.iastore, 474, 0, 0, 0, 0), some (.goto 41, 477, 0, 515, 0, 0), none, none, some (.aload_n 0, 478, 0, 0, 0, 0), some (.getfield 21, 481, 0, 1, 1, 0), none, none, some (.iload 4, 483, 0, 0, 0, 0), none, some (.iload 8, 485, 0, 0, 0, 0), none, some (.ifCond .ne 8, 488, 0, 493, 0, 0), none, none, some (.iload 9, 490, 0, 0, 0, 0), none, some (.ifCond .eq 7, 493, 0, 497, 0, 0), none, none, some (.iconst 1, 494, 0, 0, 0, 1), some (.goto 4, 497, 0, 498, 0, 0), none, none, some (.iconst 0, 498, 0, 0, 0, 0), some (.iastore, 499, 0, 0, 0, 0), some (.goto 16, 502, 0, 515, 0, 0), none, none, some (.aload_n 0, 503, 0, 0, 0, 0), some (.getfield 21, 506, 0, 1, 1, 0), none, none, some (.iload 4, 508, 0, 0, 0, 0), none, some (.iload 6, 510, 0, 0, 0, 0), none, some (.sipush 1000, 513, 0, 0, 0, 1000), none, none, some (.isub, 514, 0, 0, 0, 0), some (.iastore, 515, 0, 0, 0, 0), some (.iinc 4 1, 518, 0, 0, 0, 1), none, none, some (.iinc 5 1, 521, 0, 0, 0, 1), none, none, some (.goto (-515), 524, 0, 6, 0, 0), none, none, some (.aload_n 0, 525, 0, 0, 0, 0), some (.getfield 21, 528, 0, 1, 1, 0), none, none, some (.arraylength, 529, 0, 0, 0, 0), some (.ifCond .le 12, 532, 0, 541, 0, 0), none, none, some (.aload_n 0, 533, 0, 0, 0, 0), some (.getfield 21, 536, 0, 1, 1, 0), none, none, some (.iconst 0, 537, 0, 0, 0, 0), some (.iaload, 538, 0, 0, 0, 0), some (.goto 4, 541, 0, 542, 0, 0), none, none, some (.iconst 0, 542, 0, 0, 0, 0), some (.ireturn, 543, 0, 0, 0, 0)]
set_option maxRecDepth 20000 in
noncomputable def tb_15 : List (Option RI) := [some (.aload_n 0, 1, 0, 0, 0, 0), some (.invokespecial 3, 4, 12, 0, 0, 0), none, none, some (.aload_n 0, 5, 0, 0, 0, 0), some (.bipush 50, 7, 0, 0, 0, 50), none, some (.newarray .int, 9, 0, 0, 0, 0), none, some (.putfield 9, 12, 0, 2, 0, 0), none, none, some (.aload_n 0, 13, 0, 0, 0, 0), some (.iconst 0, 14, 0, 0, 0, 0), some (.putfield 15, 17, 0, 2, 1, 0), none, none, some (.aload_n 0, 18, 0, 0, 0, 0), some (.iconst 0, 19, 0, 0, 0, 0), some (.putfield 19, 22, 0, 2, 3, 0), none, none, some (.aload_n 0, 23, 0, 0, 0, 0), some (.ldc 22, 25, 0, 3, 0, 0), none, some (.putfield 24, 28, 0, 2, 4, 0), none, none, some (.aload_n 0, 29, 0, 0, 0, 0), some (.iconst 0, 30, 0, 0, 0, 0), some (.putfield 28, 33, 0, 2, 5, 0), none, none, some (.aload_n 0, 34, 0, 0, 0, 0), some (.iconst (-1), 35, 0, 0, 0, -1), some (.putfield 31, 38, 0, 2, 6, 0), none, none, some (.aload_n 0, 39, 0, 0, 0, 0), some (.aload_n 1, 40, 0, 0, 0, 0), some (.putfield 34, 43, 0, 2, 2, 0), none, none, some (.return_, 44, 0, 0, 0, 0)]
set_option maxRecDepth 20000 in
noncomputable def tb_16 : List (Option RI) := [some (.iload_n 0, 1, 0, 0, 0, 0), some (.tableswitch 43 0 3 #[31, 34, 37, 40], 32, 0, 0, 0, 0), none, none, none, none, none, none, none, none, none, none, none, none, none, none, none, none, none, none, none, none, none, none, none, none, none, none, none, none, none, none, some (.ldc 65, 34, 0, 6, 0, 0), none, some (.areturn, 35, 0, 0, 0, 0), some (.ldc 67, 37, 0, 7, 0, 0), none, some (.areturn, 38, 0, 0, 0, 0), some (.ldc 69, 40, 0, 8, 0, 0), none, some (.areturn, 41, 0, 0, 0, 0), some (.ldc 71, 43, 0, 9, 0, 0), none, some (.areturn, 44, 0, 0, 0, 0), some (.ldc 73, 46, 0, 10, 0, 0), none, some (.areturn, 47, 0, 0, 0, 0)]
set_option maxRecDepth 20000 in
noncomputable def tb_17 : List (Option RI) := [some (.aload_n 0, 1, 0, 0, 0, 0), some (.getfield 31, 4, 0, 2, 6, 0), none, none, some (.ifCond .ge 26, 7, 0, 30, 0, 0), none, none, some (.aload_n 0, 8, 0, 0, 0, 0), some (.getfield 28, 11, 0, 2, 5, 0), none, none, some (.aload_n 0, 12, 0, 0, 0, 0), some (.getfield 19, 15, 0, 2, 3, 0), none, none, some (.if_icmp .ge 15, 18, 0, 30, 0, 0), none, none, some (.aload_n 0, 19, 0, 0, 0, 0), some (.getfield 34, 22, 0, 2, 2, 0), none, none, some (.aload_n 0, 23, 0, 0, 0, 0), some (.getfield 28, 26, 0, 2, 5, 0), none, none, some (.iaload, 27, 0, 0, 0, 0), some (.goto 4, 30, 0, 31, 0, 0), none, none, some (.iconst (-1), 31, 0, 0, 0, -1), some (.ireturn, 32, 0, 0, 0, 0)]
set_option maxRecDepth 20000 in
noncomputable def tb_18 : List (Option RI) := [some (.aload_n 0, 1, 0, 0, 0, 0), some (.invokevirtual 75, 4, 20, 17, 0, 0), none, none, some (.istore_n 2, 5, 0, 0, 0, 0), some (.iload_n 2, 6, 0, 0, 0, 0), some (.ifCond .lt 12, 9, 0, 18, 0, 0), none, none, some (.aload_n 1, 10, 0, 0, 0, 0), some (.iload_n 2, 11, 0, 0, 0, 0), some (.i2c, 12, 0, 0, 0, 0), some (.invokevirtual 79, 15, 20, 4, 1, 0), none, none, some (.ifCond .ge 5, 18, 0, 20, 0, 0), none, none, some (.iconst 0, 19, 0, 0, 0, 0), some (.ireturn, 20, 0, 0, 0, 0), some (.aload_n 0, 21, 0, 0, 0, 0), some (.dup, 22, 0, 0, 0, 0), some (.getfield 28, 25, 0, 2, 5, 0), none, none, some (.iconst 1, 26, 0, 0, 0, 1), some (.iadd, 27, 0, 0, 0, 0), some (.putfield 28, 30, 0, 2, 5, 0), none, none, some (.iload_n 2, 31, 0, 0, 0, 0), some (.ireturn, 32, 0, 0, 0, 0)]
set_option maxRecDepth 20000 in
noncomputable def tb_19 : List (Option RI) := [some (.aload_n 0, 1, 0, 0, 0, 0), some (.getfield 15, 4, 0, 2, 1, 0), none, none, some (.bipush 50, 6, 0, 0, 0, 50), none, some (.if_icmp .ge 23, 9, 0, 29, 0, 0), none, none, some (.aload_n 0, 10, 0, 0, 0, 0), some (.getfield 9, 13, 0, 2, 0, 0), none, none, some (.aload_n 0, 14, 0, 0, 0, 0), some (.getfield 15, 17, 0, 2, 1, 0), none, none, some (.iload_n 1, 18, 0, 0, 0, 0), some (.iastore, 19, 0, 0, 0, 0), some (.aload_n 0, 20, 0, 0, 0, 0), some (.dup, 21, 0, 0, 0, 0), some (.getfield 15, 24, 0, 2, 1, 0), none, none, some (.iconst 1, 25, 0, 0, 0, 1), some (.iadd, 26, 0, 0, 0, 0), some (.putfield 15, 29, 0, 2, 1, 0), none, none, some (.return_, 30, 0, 0, 0, 0)]
set_option maxRecDepth 20000 in
noncomputable def tb_20 : List (Option RI) := [some (.iload_n 0, 1, 0, 0, 0, 0), some (.bipush 48, 3, 0, 0, 0, 48), none, some (.if_icmp .lt 13, 6, 0, 16, 0, 0), none, none, some (.iload_n 0, 7, 0, 0, 0, 0), some (.bipush 57, 9, 0, 0, 0, 57), none, some (.if_icmp .gt 7, 12, 0, 16, 0, 0), none, none, some (.iconst 1, 13, 0, 0, 0, 1), some (.goto 4, 16, 0, 17, 0, 0), none, none, some (.iconst 0, 17, 0, 0, 0, 0), some (.ireturn, 18, 0, 0, 0, 0)]
set_option maxRecDepth 20000 in
noncomputable def tb_21 : List (Option RI) := [some (.iconst 0, 1, 0, 0, 0, 0), some (.istore_n 1, 2, 0, 0, 0, 0), some (.iconst 0, 3, 0, 0, 0, 0), some (.istore_n 2, 4, 0, 0, 0, 0), some (.iload_n 2, 5, 0, 0, 0, 0), some (.iconst 4, 6, 0, 0, 0, 4), some (.if_icmp .ge 42, 9, 0, 48, 0, 0), none, none, some (.aload_n 0, 10, 0, 0, 0, 0), some (.invokevirtual 75, 13, 20, 17, 0, 0), none, none, some (.invokestatic 85, 16, 0, 20, 1, 0), none, none, some (.ifCond .eq 32, 19, 0, 48, 0, 0), none, none, some (.iload_n 1, 20, 0, 0, 0, 0), some (.bipush 10, 22, 0, 0, 0, 10), none, some (.imul, 23, 0, 0, 0, 0), some (.aload_n 0, 24, 0, 0, 0, 0), some (.invokevirtual 75, 27, 20, 17, 0, 0), none, none, some (.iadd, 28, 0, 0, 0, 0), some (.bipush 48, 30, 0, 0, 0, 48), none, some (.isub, 31, 0, 0, 0, 0), some (.istore_n 1, 32, 0, 0, 0, 0), some (.aload_n 0, 33, 0, 0, 0, 0), some (.dup, 34, 0, 0, 0, 0), some (.getfield 28, 37, 0, 2, 5, 0), none, none, some (.iconst 1, 38, 0, 0, 0, 1), some (.iadd, 39, 0, 0, 0, 0), some (.putfield 28, 42, 0, 2, 5, 0), none, none, some (.iinc 2 1, 45, 0, 0, 0, 1), none, none, some (.goto (-41), 48, 0, 4, 0, 0), none, none, some (.aload_n 0, 49, 0, 0, 0, 0), some (.sipush 1000, 52, 0, 0, 0, 1000), none, none, some (.iload_n 1, 53, 0, 0, 0, 0), some (.iadd, 54, 0, 0, 0, 0), some (.invokevirtual 62, 57, 20, 19, 1, 0), none, none, some (.return_, 58, 0, 0, 0, 0)]
set_option maxRecDepth 20000 in
noncomputable def tb_22 : List (Option RI) := [some (.aload_n 0, 1, 0, 0, 0, 0), some (.getfield 31, 4, 0, 2, 6, 0), none, none, some (.ifCond .ge 11, 7, 0, 15, 0, 0), none, none, some (.aload_n 0, 8, 0, 0, 0, 0), some (.aload_n 0, 9, 0, 0, 0, 0), some (.getfield 28, 12, 0, 2, 5, 0), none, none, some (.putfield 31, 15, 0, 2, 6, 0), none, none, some (.return_, 16, 0, 0, 0, 0)]
set_option maxRecDepth 20000 in
noncomputable def tb_23 : List (Option RI) := [some (.aload_n 0, 1, 0, 0, 0, 0), some (.invokevirtual 75, 4, 20, 17, 0, 0), none, none, some (.istore_n 2, 5, 0, 0, 0, 0), some (.iload_n 2, 6, 0, 0, 0, 0), some (.ifCond .ge 7, 9, 0, 13, 0, 0), none, none, some (.iconst (-1), 10, 0, 0, 0, -1), some (.goto 12, 13, 0, 22, 0, 0), none, none, some (.aload_n 0, 14, 0, 0, 0, 0), some (.getfield 24, 17, 0, 2, 4, 0), none, none, some (.iload_n 2, 18, 0, 0, 0, 0), some (.i2c, 19, 0, 0, 0, 0), some (.invokevirtual 79, 22, 20, 4, 1, 0), none, none, some (.istore_n 3, 23, 0, 0, 0, 0), some (.iload_n 2, 24, 0, 0, 0, 0), some (.invokestatic 85, 27, 0, 20, 1, 0), none, none, some (.ifCond .eq 10, 30, 0, 37, 0, 0), none, none, some (.aload_n 0, 31, 0, 0, 0, 0), some (.invokevirtual 89, 34, 20, 21, 0, 0), none, none, some (.goto 111, 37, 0, 145, 0, 0), none, none, some (.iload_n 3, 38, 0, 0, 0, 0), some (.ifCond .lt 21, 41, 0, 59, 0, 0), none, none, some (.aload_n 0, 42, 0, 0, 0, 0), some (.dup, 43, 0, 0, 0, 0), some (.getfield 28, 46, 0, 2, 5, 0), none, none, some (.iconst 1, 47, 0, 0, 0, 1), some (.iadd, 48, 0, 0, 0, 0), some (.putfield 28, 51, 0, 2, 5, 0), none, none, some (.aload_n 0, 52, 0, 0, 0, 0), some (.iload_n 3, 53, 0, 0, 0, 0), some (.invokevirtual 62, 56, 20, 19, 1, 0), none, none, some (.goto 89, 59, 0, 145, 0, 0), none, none, some (.iload_n 2, 60, 0, 0, 0, 0), some (.bipush 33, 62, 0, 0, 0, 33), none, some (.if_icmp .ne 34, 65, 0, 96, 0, 0), none, none, some (.iload_n 1, 66, 0, 0, 0, 0), some (.iconst 5, 67, 0, 0, 0, 5), some (.if_icmp .ge 29, 70, 0, 96, 0, 0), none, none, some (.aload_n 0, 71, 0, 0, 0, 0), some (.dup, 72, 0, 0, 0, 0), some (.getfield 28, 75, 0, 2, 5, 0), none, none, some (.iconst 1, 76, 0, 0, 0, 1), some (.iadd, 77, 0, 0, 0, 0), some (.putfield 28, 80, 0, 2, 5, 0), none, none, some (.aload_n 0, 81, 0, 0, 0, 0), some (.iload_n 1, 82, 0, 0, 0, 0), some (.iconst 1, 83, 0, 0, 0, 1), some (.iadd, 84, 0, 0, 0, 0), some (.invokevirtual 50, 87, 20, 23, 1, 0), none, none, some (.aload_n 0, 88, 0, 0, 0, 0), some (.bipush 33, 90, 0, 0, 0, 33), none, some (.invokevirtual 62, 93, 20, 19, 1, 0), none, none, some (.goto 52, 96, 0, 145, 0, 0), none, none, some (.iload_n 2, 97, 0, 0, 0, 0), some (.bipush 40, 99, 0, 0, 0, 40), none, some (.if_icmp .ne 42, 102, 0, 141, 0, 0), none, none, some (.iload_n 1, 103, 0, 0, 0, 0), some (.iconst 5, 104, 0, 0, 0, 5), some (.if_icmp .ge 37, 107, 0, 141, 0, 0), none, none, some (.aload_n 0, 108, 0, 0, 0, 0), some (.dup, 109, 0, 0, 0, 0), some (.getfield 28, 112, 0, 2, 5, 0), none, none, some (.iconst 1, 113, 0, 0, 0, 1), some (.iadd, 114, 0, 0, 0, 0), some (.putfield 28, 117, 0, 2, 5, 0), none, none, some (.aload_n 0, 118, 0, 0, 0, 0), some (.iconst 0, 119, 0, 0, 0, 0), some (.iload_n 1, 120, 0, 0, 0, 0), some (.iconst 1, 121, 0, 0, 0, 1), some (.iadd, 122, 0, 0, 0, 0), some (.invokevirtual 43, 125, 20, 24, 2, 0), none, none, some (.aload_n 0, 126, 0, 0, 0, 0), some (.ldc 92, 128, 0, 5, 0, 0), none, some (.invokevirtual 58, 131, 20, 18, 1, 0), none, none, some (.ifCond .ne 14, 134, 0, 145, 0, 0), none, none, some (.aload_n 0, 135, 0, 0, 0, 0), some (.invokevirtual 47, 138, 20, 22, 0, 0), none, none, some (.goto 7, 141, 0, 145, 0, 0), none, none, some (.aload_n 0, 142, 0, 0, 0, 0), some (.invokevirtual 47, 145, 20, 22, 0, 0), none, none, some (.return_, 146, 0, 0, 0, 0)]
set_option maxRecDepth 20000 in
noncomputable def tb_24 : List (Option RI) := [some (.iload_n 1, 1, 0, 0, 0, 0), some (.iconst 5, 2, 0, 0, 0, 5), some (.if_icmp .lt 9, 5, 0, 11, 0, 0), none, none, some (.aload_n 0, 6, 0, 0, 0, 0), some (.iload_n 2, 7, 0, 0, 0, 0), some (.invokevirtual 50, 10, 20, 23, 1, 0), none, none, some (.return_, 11, 0, 0, 0, 0), some (.aload_n 0, 12, 0, 0, 0, 0), some (.iload_n 1, 13, 0, 0, 0, 0), some (.iconst 1, 14, 0, 0, 0, 1), some (.iadd, 15, 0, 0, 0, 0), some (.iload_n 2, 16, 0, 0, 0, 0), some (.invokevirtual 43, 19, 20, 24, 2, 0), none, none, some (.iload_n 1, 20, 0, 0, 0, 0), some (.iconst 2, 21, 0, 0, 0, 2), some (.if_icmp .ne 7, 24, 0, 28, 0, 0), none, none, some (.iconst 1, 25, 0, 0, 0, 1), some (.goto 5, 28, 0, 30, 0, 0), none, none, some (.bipush 50, 30, 0, 0, 0, 50), none, some (.istore_n 3, 31, 0, 0, 0, 0), some (.iconst 0, 32, 0, 0, 0, 0), some (.istore 4, 34, 0, 0, 0, 0), none, some (.iload 4, 36, 0, 0, 0, 0), none, some (.iload_n 3, 37, 0, 0, 0, 0), some (.if_icmp .ge 39, 40, 0, 76, 0, 0), none, none, some (.aload_n 0, 41, 0, 0, 0, 0), some (.iload_n 1, 42, 0, 0, 0, 0), some (.invokestatic 54, 45, 0, 16, 1, 0), none, none, some (.invokevirtual 58, 48, 20, 18, 1, 0), none, none, some (.istore 5, 50, 0, 0, 0, 0), none, some (.iload 5, 52, 0, 0, 0, 0), none, some (.ifCond .ne 4, 55, 0, 56, 0, 0), none, none, some (.return_, 56, 0, 0, 0, 0), some (.aload_n 0, 57, 0, 0, 0, 0), some (.iload_n 1, 58, 0, 0, 0, 0), some (.iconst 1, 59, 0, 0, 0, 1), some (.iadd, 60, 0, 0, 0, 0), some (.iload_n 2, 61, 0, 0, 0, 0), some (.invokevirtual 43, 64, 20, 24, 2, 0), none, none, some (.aload_n 0, 65, 0, 0, 0, 0), some (.iload 5, 67, 0, 0, 0, 0), none, some (.invokevirtual 62, 70, 20, 19, 1, 0), none, none, some (.iinc 4 1, 73, 0, 0, 0, 1), none, none, some (.goto (-39), 76, 0, 34, 0, 0), none, none, some (.return_, 77, 0, 0, 0, 0)]
set_option maxRecDepth 20000 in
noncomputable def tb_25 : List (Option RI) := [some (.aload_n 0, 1, 0, 0, 0, 0), some (.iload_n 1, 2, 0, 0, 0, 0), some (.aload_n 0, 3, 0, 0, 0, 0), some (.getfield 34, 6, 0, 2, 2, 0), none, none, some (.arraylength, 7, 0, 0, 0, 0), some (.invokestatic 37, 10, 3, 0, 2, 0), none, none, some (.putfield 19, 13, 0, 2, 3, 0), none, none, some (.aload_n 0, 14, 0, 0, 0, 0), some (.aload_n 2, 15, 0, 0, 0, 0), some (.putfield 24, 18, 0, 2, 4, 0), none, none, some (.aload_n 0, 19, 0, 0, 0, 0), some (.iconst 0, 20, 0, 0, 0, 0), some (.putfield 15, 23, 0, 2, 1, 0), none, none, some (.aload_n 0, 24, 0, 0, 0, 0), some (.iconst 0, 25, 0, 0, 0, 0), some (.putfield 28, 28, 0, 2, 5, 0), none, none, some (.aload_n 0, 29, 0, 0, 0, 0), some (.iconst (-1), 30, 0, 0, 0, -1), some (.putfield 31, 33, 0, 2, 6, 0), none, none, some (.aload_n 0, 34, 0, 0, 0, 0), some (.iconst 0, 35, 0, 0, 0, 0), some (.iconst 0, 36, 0, 0, 0, 0), some (.invokevirtual 43, 39, 20, 24, 2, 0), none, none, some (.aload_n 0, 40, 0, 0, 0, 0), some (.getfield 28, 43, 0, 2, 5, 0), none, none, some (.aload_n 0, 44, 0, 0, 0, 0), some (.getfield 19, 47, 0, 2, 3, 0), none, none, some (.if_icmp .ge 7, 50, 0, 54, 0, 0), none, none, some (.aload_n 0, 51, 0, 0, 0, 0), some (.invokevirtual 47, 54, 20, 22, 0, 0), none, none, some (.aload_n 0, 55, 0, 0, 0, 0), some (.getfield 31, 58, 0, 2, 6, 0), none, none, some (.ireturn, 59, 0, 0, 0, 0)]
set_option maxRecDepth 20000 in
noncomputable def tb_26 : List (Option RI) := [some (.aload_n 0, 1, 0, 0, 0, 0), some (.invokespecial 3, 4, 12, 0, 0, 0), none, none, some (.aload_n 0, 5, 0, 0, 0, 0), some (.iconst 0, 6, 0, 0, 0, 0), some (.putfield 9, 9, 0, 3, 0, 0), none, none, some (.aload_n 0, 10, 0, 0, 0, 0), some (.iconst 0, 11, 0, 0, 0, 0), some (.putfield 15, 14, 0, 3, 1, 0), none, none, some (.aload_n 0, 15, 0, 0, 0, 0), some (.bipush 40, 17, 0, 0, 0, 40), none, some (.newarray .int, 19, 0, 0, 0, 0), none, some (.putfield 18, 22, 0, 3, 2, 0), none, none, some (.return_, 23, 0, 0, 0, 0)]
set_option maxRecDepth 20000 in
noncomputable def tb_27 : List (Option RI) := [some (.aload_n 0, 1, 0, 0, 0, 0), some (.iload_n 1, 2, 0, 0, 0, 0), some (.putfield 9, 5, 0, 3, 0, 0), none, none, some (.aload_n 0, 6, 0, 0, 0, 0), some (.iload_n 2, 7, 0, 0, 0, 0), some (.putfield 15, 10, 0, 3, 1, 0), none, none, some (.aload_n 0, 11, 0, 0, 0, 0), some (.getfield 18, 14, 0, 3, 2, 0), none, none, some (.iconst 0, 15, 0, 0, 0, 0), some (.invokestatic 22, 18, 0, 9, 2, 0), none, none, some (.return_, 19, 0, 0, 0, 0)]
set_option maxRecDepth 20000 in
noncomputable def tb_28 : List (Option RI) := [some (.aload_n 0, 1, 0, 0, 0, 0), some (.getfield 9, 4, 0, 3, 0, 0), none, none, some (.bipush 8, 6, 0, 0, 0, 8), none, some (.if_icmp .ne 11, 9, 0, 17, 0, 0), none, none, some (.iload_n 1, 10, 0, 0, 0, 0), some (.sipush 255, 13, 0, 0, 0, 255), none, none, some (.iand, 14, 0, 0, 0, 0), some (.goto 20, 17, 0, 34, 0, 0), none, none, some (.aload_n 0, 18, 0, 0, 0, 0), some (.getfield 9, 21, 0, 3, 0, 0), none, none, some (.bipush 16, 23, 0, 0, 0, 16), none, some (.if_icmp .ne 10, 26, 0, 33, 0, 0), none, none, some (.iload_n 1, 27, 0, 0, 0, 0), some (.ldc 28, 29, 0, 0, 0, 65535), none, some (.iand, 30, 0, 0, 0, 0), some (.goto 4, 33, 0, 34, 0, 0), none, none, some (.iload_n 1, 34, 0, 0, 0, 0), some (.ireturn, 35, 0, 0, 0, 0)]
set_option maxRecDepth 20000 in
noncomputable def tb_29 : List (Option RI) := [some (.aload_n 0, 1, 0, 0, 0, 0), some (.getfield 18, 4, 0, 3, 2, 0), none, none, some (.iload_n 1, 5, 0, 0, 0, 0), some (.iaload, 6, 0, 0, 0, 0), some (.aload_n 0, 7, 0, 0, 0, 0), some (.iload_n 2, 8, 0, 0, 0, 0), some (.invokevirtual 29, 11, 20, 28, 1, 0), none, none, some (.if_icmp .ne 7, 14, 0, 18, 0, 0), none, none, some (.iconst 1, 15, 0, 0, 0, 1), some (.goto 4, 18, 0, 19, 0, 0), none, none, some (.iconst 0, 19, 0, 0, 0, 0), some (.ireturn, 20, 0, 0, 0, 0)]
set_option maxRecDepth 20000 in
noncomputable def tb_30 : List (Option RI) := [some (.aload_n 0, 1, 0, 0, 0, 0), some (.invokespecial 3, 4, 12, 0, 0, 0), none, none, some (.aload_n 0, 5, 0, 0, 0, 0), some (.bipush 8, 7, 0, 0, 0, 8), none, some (.newarray .int, 9, 0, 0, 0, 0), none, some (.dup, 10, 0, 0, 0, 0), some (.iconst 0, 11, 0, 0, 0, 0), some (.iconst 5, 12, 0, 0, 0, 5), some (.iastore, 13, 0, 0, 0, 0), some (.dup, 14, 0, 0, 0, 0), some (.iconst 1, 15, 0, 0, 0, 1), some (.iconst 5, 16, 0, 0, 0, 5), some (.iastore, 17, 0, 0, 0, 0), some (.dup, 18, 0, 0, 0, 0), some (.iconst 2, 19, 0, 0, 0, 2), some (.iconst 5, 20, 0, 0, 0, 5), some (.iastore, 21, 0, 0, 0, 0), some (.dup, 22, 0, 0, 0, 0), some (.iconst 3, 23, 0, 0, 0, 3), some (.iconst 5, 24, 0, 0, 0, 5), some (.iastore, 25, 0, 0, 0, 0), some (.dup, 26, 0, 0, 0, 0), some (.iconst 4, 27, 0, 0, 0, 4), some (.iconst 5, 28, 0, 0, 0, 5), some (.iastore, 29, 0, 0, 0, 0), some (.dup, 30, 0, 0, 0, 0), some (.iconst 5, 31, 0, 0, 0, 5), some (.iconst 5, 32, 0, 0, 0, 5), some (.iastore, 33, 0, 0, 0, 0), some (.dup, 34, 0, 0, 0, 0), some (.bipush 6, 36, 0, 0, 0, 6), none, some (.iconst 5, 37, 0, 0, 0, 5), some (.iastore, 38, 0, 0, 0, 0), some (.dup, 39, 0, 0, 0, 0), some (.bipush 7, 41, 0, 0, 0, 7), none, some (.iconst 5, 42, 0, 0, 0, 5), some (.iastore, 43, 0, 0, 0, 0), some (.putfield 9, 46, 0, 4, 0, 0), none, none, some (.aload_n 0, 47, 0, 0, 0, 0), some (.bipush 8, 49, 0, 0, 0, 8), none, some (.newarray .int, 51, 0, 0, 0, 0), none, some (.putfield 15, 54, 0, 4, 1, 0), none, none, some (.aload_n 0, 55, 0, 0, 0, 0), some (.bipush 8, 57, 0, 0, 0, 8), none, some (.newarray .int, 59, 0, 0, 0, 0), none, some (.putfield 18, 62, 0, 4, 2, 0), none, none, some (.aload_n 0, 63, 0, 0, 0, 0), some (.bipush 8, 65, 0, 0, 0, 8), none, some (.newarray .int, 67, 0, 0, 0, 0), none, some (.putfield 21, 70, 0, 4, 3, 0), none, none, some (.aload_n 0, 71, 0, 0, 0, 0), some (.bipush 8, 73, 0, 0, 0, 8), none, some (.newarray .int, 75, 0, 0, 0, 0), none, some (.putfield 24, 78, 0, 4, 4, 0), none, none, some (.aload_n 0, 79, 0, 0, 0, 0), some (.bipush 8, 81, 0, 0, 0, 8), none, some (.newarray .int, 83, 0, 0, 0, 0), none, some (.putfield 27, 86, 0, 4, 5, 0), none, none, some (.aload_n 0, 87, 0, 0, 0, 0), some (.bipush 8, 89, 0, 0, 0, 8), none, some (.newarray .boolean, 91, 0, 1, 0, 0), none, some (.putfield 30, 94, 0, 4, 6, 0), none, none, some (.aload_n 0, 95, 0, 0, 0, 0), some (.bipush 8, 97, 0, 0, 0, 8), none, some (.newarray .int, 99, 0, 0, 0, 0), none, some (.putfield 34, 102, 0, 4, 7, 0), none, none, some (.aload_n 0, 103, 0, 0, 0, 0), some (.iconst 1, 104, 0, 0, 0, 1), some (.putfield 37, 107, 0, 4, 8, 0), none, none, some (.aload_n 0, 108, 0, 0, 0, 0), some (.iconst 0, 109, 0, 0, 0, 0), some (.putfield 41, 112, 0, 4, 9, 0), none, none, some (.aload_n 0, 113, 0, 0, 0, 0), some (.iconst 0, 114, 0, 0, 0, 0), some (.putfield 44, 117, 0, 4, 10, 0), none, none, some (.aload_n 0, 118, 0, 0, 0, 0), some (.aconst_null, 119, 0, 0, 0, 0), some (.putfield 47, 122, 0, 4, 11, 0), none, none, some (.aload_n 0, 123, 0, 0, 0, 0), some (.aconst_null, 124, 0, 0, 0, 0), some (.putfield 51, 127, 0, 4, 12, 0), none, none, some (.return_, 128, 0, 0, 0, 0)]
set_option maxRecDepth 20000 in
noncomputable def tb_31 : List (Option RI) := [some (.aload_n 1, 1, 0, 0, 0, 0), some (.getfield 9, 4, 0, 4, 0, 0), none, none, some (.iconst 0, 5, 0, 0, 0, 0), some (.aload_n 0, 6, 0, 0, 0, 0), some (.getfield 9, 9, 0, 4, 0, 0), none, none, some (.iconst 0, 10, 0, 0, 0, 0), some (.bipush 8, 12, 0, 0, 0, 8), none, some (.invokestatic 54, 15, 4, 0, 5, 0), none, none, some (.aload_n 1, 16, 0, 0, 0, 0), some (.getfield 15, 19, 0, 4, 1, 0), none, none, some (.iconst 0, 20, 0, 0, 0, 0), some (.aload_n 0, 21, 0, 0, 0, 0), some (.getfield 15, 24, 0, 4, 1, 0), none, none, some (.iconst 0, 25, 0, 0, 0, 0), some (.bipush 8, 27, 0, 0, 0, 8), none, some (.invokestatic 54, 30, 4, 0, 5, 0), none, none, some (.aload_n 1, 31, 0, 0, 0, 0), some (.getfield 18, 34, 0, 4, 2, 0), none, none, some (.iconst 0, 35, 0, 0, 0, 0), some (.aload_n 0, 36, 0, 0, 0, 0), some (.getfield 18, 39, 0, 4, 2, 0), none, none, some (.iconst 0, 40, 0, 0, 0, 0), some (.bipush 8, 42, 0, 0, 0, 8), none, some (.invokestatic 54, 45, 4, 0, 5, 0), none, none, some (.aload_n 1, 46, 0, 0, 0, 0), some (.getfield 21, 49, 0, 4, 3, 0), none, none, some (.iconst 0, 50, 0, 0, 0, 0), some (.aload_n 0, 51, 0, 0, 0, 0), some (.getfield 21, 54, 0, 4, 3, 0), none, none, some (.iconst 0, 55, 0, 0, 0, 0), some (.bipush 8, 57, 0, 0, 0, 8), none, some (.invokestatic 54, 60, 4, 0, 5, 0), none, none, some (.aload_n 1, 61, 0, 0, 0, 0), some (.getfield 24, 64, 0, 4, 4, 0), none, none, some (.iconst 0, 65, 0, 0, 0, 0), some (.aload_n 0, 66, 0, 0, 0, 0), some (.getfield 24, 69, 0, 4, 4, 0), none, none, some (.iconst 0, 70, 0, 0, 0, 0), some (.bipush 8, 72, 0, 0, 0, 8), none, some (.invokestatic 54, 75, 4, 0, 5, 0), none, none, some (.aload_n 1, 76, 0, 0, 0, 0), some (.getfield 27, 79, 0, 4, 5, 0), none, none, some (.iconst 0, 80, 0, 0, 0, 0), some (.aload_n 0, 81, 0, 0, 0, 0), some (.getfield 27, 84, 0, 4, 5, 0), none, none, some (.iconst 0, 85, 0, 0, 0, 0), some (.bipush 8, 87, 0, 0, 0, 8), none, some (.invokestatic 54, 90, 4, 0, 5, 0), none, none, some (.aload_n 1, 91, 0, 0, 0, 0), some (.getfield 30, 94, 0, 4, 6, 0), none, none, some (.iconst 0, 95, 0, 0, 0, 0), some (.aload_n 0, 96, 0, 0, 0, 0), some (.getfield 30, 99, 0, 4, 6, 0), none, none, some (.iconst 0, 100, 0, 0, 0, 0), some (.bipush 8, 102, 0, 0, 0, 8), none, some (.invokestatic 54, 105, 4, 0, 5, 0), none, none, some (.aload_n 0, 106, 0, 0, 0, 0), some (.aload_n 1, 107, 0, 0, 0, 0), some (.getfield 37, 110, 0, 4, 8, 0), none, none, some (.putfield 37, 113, 0, 4, 8, 0), none, none, some (.aload_n 0, 114, 0, 0, 0, 0), some (.aload_n 1, 115, 0, 0, 0, 0), some (.getfield 41, 118, 0, 4, 9, 0), none, none, some (.putfield 41, 121, 0, 4, 9, 0), none, none, some (.aload_n 0, 122, 0, 0, 0, 0), some (.aload_n 1, 123, 0, 0, 0, 0), some (.getfield 44, 126, 0, 4, 10, 0), none, none, some (.putfield 44, 129, 0, 4, 10, 0), none, none, some (.aload_n 0, 130, 0, 0, 0, 0), some (.aload_n 1, 131, 0, 0, 0, 0), some (.getfield 47, 134, 0, 4, 11, 0), none, none, some (.putfield 47, 137, 0, 4, 11, 0), none, none, some (.aload_n 0, 138, 0, 0, 0, 0), some (.aload_n 1, 139, 0, 0, 0, 0), some (.getfield 51, 142, 0, 4, 12, 0), none, none, some (.putfield 51, 145, 0, 4, 12, 0), none, none, some (.return_, 146, 0, 0, 0, 0)]
set_option maxRecDepth 20000 in
noncomputable def tb_32 : List (Option RI) := [some (.aload_n 0, 1, 0, 0, 0, 0), some (.getfield 47, 4, 0, 4, 11, 0), none, none, some (.ifnonnull 15, 7, 0, 19, 0, 0), none, none, some (.iload_n 2, 8, 0, 0, 0, 0), some (.bipush 9, 10, 0, 0, 0, 9), none, some (.iadd, 11, 0, 0, 0, 0), some (.iload_n 1, 12, 0, 0, 0, 0), some (.bipush 9, 14, 0, 0, 0, 9), none, some (.idiv, 15, 0, 0, 0, 0), some (.isub, 16, 0, 0, 0, 0), some (.goto 13, 19, 0, 29, 0, 0), none, none, some (.aload_n 0, 20, 0, 0, 0, 0), some (.getfield 47, 23, 0, 4, 11, 0), none, none, some (.iload_n 1, 24, 0, 0, 0, 0), some (.iload_n 2, 25, 0, 0, 0, 0), some (.iload_n 3, 26, 0, 0, 0, 0), some (.invokevirtual 60, 29, 20, 14, 3, 0), none, none, some (.bipush 99, 31, 0, 0, 0, 99), none, some (.invokestatic 66, 34, 1, 51, 2, 0), none, none, some (.ireturn, 35, 0, 0, 0, 0)]
set_option maxRecDepth 20000 in
noncomputable def tb_33 : List (Option RI) := [some (.aload_n 0, 1, 0, 0, 0, 0), some (.getfield 51, 4, 0, 4, 12, 0), none, none, some (.ifnonnull 7, 7, 0, 11, 0, 0), none, none, some (.iconst 0, 8, 0, 0, 0, 0), some (.goto 17, 11, 0, 25, 0, 0), none, none, some (.aload_n 0, 12, 0, 0, 0, 0), some (.getfield 51, 15, 0, 4, 12, 0), none, none, some (.iload_n 1, 16, 0, 0, 0, 0), some (.iload_n 2, 17, 0, 0, 0, 0), some (.iload_n 3, 18, 0, 0, 0, 0), some (.invokevirtual 60, 21, 20, 14, 3, 0), none, none, some (.iconst 1, 22, 0, 0, 0, 1), some (.invokestatic 66, 25, 1, 51, 2, 0), none, none, some (.ireturn, 26, 0, 0, 0, 0)]
set_option maxRecDepth 20000 in
noncomputable def tb_34 : List (Option RI) := [some (.aload_n 0, 1, 0, 0, 0, 0), some (.aload_n 0, 2, 0, 0, 0, 0), some (.getfield 21, 5, 0, 4, 3, 0), none, none, some (.iload_n 1, 6, 0, 0, 0, 0), some (.iaload, 7, 0, 0, 0, 0), some (.aload_n 0, 8, 0, 0, 0, 0), some (.getfield 27, 11, 0, 4, 5, 0), none, none, some (.iload_n 1, 12, 0, 0, 0, 0), some (.iaload, 13, 0, 0, 0, 0), some (.aload_n 0, 14, 0, 0, 0, 0), some (.getfield 41, 17, 0, 4, 9, 0), none, none, some (.bipush 16, 19, 0, 0, 0, 16), none, some (.irem, 20, 0, 0, 0, 0), some (.invokevirtual 70, 23, 20, 32, 3, 0), none, none, some (.istore_n 2, 24, 0, 0, 0, 0), some (.aload_n 0, 25, 0, 0, 0, 0), some (.getfield 15, 28, 0, 4, 1, 0), none, none, some (.iload_n 1, 29, 0, 0, 0, 0), some (.iaload, 30, 0, 0, 0, 0), some (.tableswitch 149 1 6 #[38, 54, 65, 83, 102, 129], 68, 0, 0, 0, 0), none, none, none, none, none, none, none, none, none, none, none, none, none, none, none, none, none, none, none, none, none, none, none, none, none, none, none, none, none, none, none, none, none, none, none, none, none, some (.iload_n 2, 69, 0, 0, 0, 0), some (.aload_n 0, 70, 0, 0, 0, 0), some (.getfield 24, 73, 0, 4, 4, 0), none, none, some (.iload_n 1, 74, 0, 0, 0, 0), some (.iaload, 75, 0, 0, 0, 0), some (.iadd, 76, 0, 0, 0, 0), some (.aload_n 0, 77, 0, 0, 0, 0), some (.getfield 18, 80, 0, 4, 2, 0), none, none, some (.iload_n 1, 81, 0, 0, 0, 0), some (.iaload, 82, 0, 0, 0, 0), some (.iadd, 83, 0, 0, 0, 0), some (.ireturn, 84, 0, 0, 0, 0), some (.iload_n 2, 85, 0, 0, 0, 0), some (.iconst 2, 86, 0, 0, 0, 2), some (.idiv, 87, 0, 0, 0, 0), some (.aload_n 0, 88, 0, 0, 0, 0), some (.getfield 24, 91, 0, 4, 4, 0), none, none, some (.iload_n 1, 92, 0, 0, 0, 0), some (.iaload, 93, 0, 0, 0, 0), some (.iadd, 94, 0, 0, 0, 0), some (.ireturn, 95, 0, 0, 0, 0), some (.iload_n 2, 96, 0, 0, 0, 0), some (.aload_n 0, 97, 0, 0, 0, 0), some (.getfield 24, 100, 0, 4, 4, 0), none, none, some (.iload_n 1, 101, 0, 0, 0, 0), some (.iaload, 102, 0, 0, 0, 0), some (.iadd, 103, 0, 0, 0, 0), some (.aload_n 0, 104, 0, 0, 0, 0), some (.getfield 21, 107, 0, 4, 3, 0), none, none, some (.iload_n 1, 108, 0, 0, 0, 0), some (.iaload, 109, 0, 0, 0, 0), some (.iconst 2, 110, 0, 0, 0, 2), some (.idiv, 111, 0, 0, 0, 0), some (.isub, 112, 0, 0, 0, 0), some (.ireturn, 113, 0, 0, 0, 0), some (.iload_n 2, 114, 0, 0, 0, 0), some (.aload_n 0, 115, 0, 0, 0, 0), some (.getfield 24, 118, 0, 4, 4, 0), none, none, some (.iload_n 1, 119, 0, 0, 0, 0), some (.iaload, 120, 0, 0, 0, 0), some (.iadd, 121, 0, 0, 0, 0), some (.aload_n 0, 122, 0, 0, 0, 0), some (.getfield 18, 125, 0, 4, 2, 0), none, none, some (.iload_n 1, 126, 0, 0, 0, 0), some (.iaload, 127, 0, 0, 0, 0), some (.iadd, 128, 0, 0, 0, 0), some (.bipush 20, 130, 0, 0, 0, 20), none, some (.isub, 131, 0, 0, 0, 0), some (.ireturn, 132, 0, 0, 0, 0), some (.iload_n 2, 133, 0, 0, 0, 0), some (.iconst 2, 134, 0, 0, 0, 2), some (.idiv, 135, 0, 0, 0, 0), some (.aload_n 0, 136, 0, 0, 0, 0), some (.getfield 24, 139, 0, 4, 4, 0), none, none, some (.iload_n 1, 140, 0, 0, 0, 0), some (.iaload, 141, 0, 0, 0, 0), some (.iadd, 142, 0, 0, 0, 0), some (.aload_n 0, 143, 0, 0, 0, 0), some (.getfield 27, 146, 0, 4, 5, 0), none, none, some (.iload_n 1, 147, 0, 0, 0, 0), some (.iaload, 148, 0, 0, 0, 0), some (.ifCond .le 8, 151, 0, 156, 0, 0), none, none, some (.bipush 9, 153, 0, 0, 0, 9), none, some (.goto 4, 156, 0, 157, 0, 0), none, none, some (.iconst 0, 157, 0, 0, 0, 0), some (.iadd, 158, 0, 0, 0, 0), some (.ireturn, 159, 0, 0, 0, 0), some (.iload_n 2, 160, 0, 0, 0, 0), some (.iconst 2, 161, 0, 0, 0, 2), some (.aload_n 0, 162, 0, 0, 0, 0), some (.getfield 24, 165, 0, 4, 4, 0), none, none, some (.iload_n 1, 166, 0, 0, 0, 0), some (.iaload, 167, 0, 0, 0, 0), some (.imul, 168, 0, 0, 0, 0), some (.iadd, 169, 0, 0, 0, 0), some (.aload_n 0, 170, 0, 0, 0, 0), some (.getfield 21, 173, 0, 4, 3, 0), none, none, some (.iload_n 1, 174, 0, 0, 0, 0), some (.iaload, 175, 0, 0, 0, 0), some (.iconst 2, 176, 0, 0, 0, 2), some (.idiv, 177, 0, 0, 0, 0), some (.isub, 178, 0, 0, 0, 0), some (.ireturn, 179, 0, 0, 0, 0), some (.iload_n 2, 180, 0, 0, 0, 0), some (.aload_n 0, 181, 0, 0, 0, 0), some (.getfield 24, 184, 0, 4, 4, 0), none, none, some (.iload_n 1, 185, 0, 0, 0, 0), some (.iaload, 186, 0, 0, 0, 0), some (.iadd, 187, 0, 0, 0, 0), some (.ireturn, 188, 0, 0, 0, 0)]
set_option maxRecDepth 20000 in
noncomputable def tb_35 : List (Option RI) := [some (.aload_n 0, 1, 0, 0, 0, 0), some (.getfield 15, 4, 0, 4, 1, 0), none, none, some (.iload_n 1, 5, 0, 0, 0, 0), some (.iaload, 6, 0, 0, 0, 0), some (.tableswitch 53 1 6 #[38, 40, 42, 38, 40, 42], 44, 0, 0, 0, 0), none, none, none, none, none, none, none, none, none, none, none, none, none, none, none, none, none, none, none, none, none, none, none, none, none, none, none, none, none, none, none, none, none, none, none, none, none, some (.iconst 0, 45, 0, 0, 0, 0), some (.ireturn, 46, 0, 0, 0, 0), some (.iconst 2, 47, 0, 0, 0, 2), some (.ireturn, 48, 0, 0, 0, 0), some (.iconst 1, 49, 0, 0, 0, 1), some (.aload_n 0, 50, 0, 0, 0, 0), some (.getfield 18, 53, 0, 4, 2, 0), none, none, some (.iload_n 1, 54, 0, 0, 0, 0), some (.iaload, 55, 0, 0, 0, 0), some (.iconst 3, 56, 0, 0, 0, 3), some (.irem, 57, 0, 0, 0, 0), some (.iadd, 58, 0, 0, 0, 0), some (.ireturn, 59, 0, 0, 0, 0), some (.iconst 1, 60, 0, 0, 0, 1), some (.ireturn, 61, 0, 0, 0, 0)]
set_option maxRecDepth 20000 in
noncomputable def tb_36 : List (Option RI) := [some (.iconst 0, 1, 0, 0, 0, 0), some (.istore_n 1, 2, 0, 0, 0, 0), some (.iload_n 1, 3, 0, 0, 0, 0), some (.aload_n 0, 4, 0, 0, 0, 0), some (.getfield 44, 7, 0, 4, 10, 0), none, none, some (.if_icmp .ge 20, 10, 0, 27, 0, 0), none, none, some (.aload_n 0, 11, 0, 0, 0, 0), some (.getfield 34, 14, 0, 4, 7, 0), none, none, some (.iload_n 1, 15, 0, 0, 0, 0), some (.aload_n 0, 16, 0, 0, 0, 0), some (.iload_n 1, 17, 0, 0, 0, 0), some (.invokevirtual 73, 20, 20, 34, 1, 0), none, none, some (.iastore, 21, 0, 0, 0, 0), some (.iinc 1 1, 24, 0, 0, 0, 1), none, none, some (.goto (-22), 27, 0, 2, 0, 0), none, none, some (.return_, 28, 0, 0, 0, 0)]
set_option maxRecDepth 20000 in
noncomputable def tb_37 : List (Option RI) := [some (.iconst 0, 1, 0, 0, 0, 0), some (.istore_n 2, 2, 0, 0, 0, 0), some (.iconst 0, 3, 0, 0, 0, 0), some (.istore_n 3, 4, 0, 0, 0, 0), some (.iload_n 3, 5, 0, 0, 0, 0), some (.aload_n 0, 6, 0, 0, 0, 0), some (.getfield 44, 9, 0, 4, 10, 0), none, none, some (.if_icmp .ge 68, 12, 0, 77, 0, 0), none, none, some (.aload_n 0, 13, 0, 0, 0, 0), some (.getfield 34, 16, 0, 4, 7, 0), none, none, some (.iload_n 3, 17, 0, 0, 0, 0), some (.iaload, 18, 0, 0, 0, 0), some (.aload_n 0, 19, 0, 0, 0, 0), some (.getfield 34, 22, 0, 4, 7, 0), none, none, some (.iload_n 1, 23, 0, 0, 0, 0), some (.iaload, 24, 0, 0, 0, 0), some (.if_icmp .gt 23, 27, 0, 47, 0, 0), none, none, some (.aload_n 0, 28, 0, 0, 0, 0), some (.getfield 34, 31, 0, 4, 7, 0), none, none, some (.iload_n 3, 32, 0, 0, 0, 0), some (.iaload, 33, 0, 0, 0, 0), some (.aload_n 0, 34, 0, 0, 0, 0), some (.getfield 34, 37, 0, 4, 7, 0), none, none, some (.iload_n 1, 38, 0, 0, 0, 0), some (.iaload, 39, 0, 0, 0, 0), some (.if_icmp .ne 12, 42, 0, 51, 0, 0), none, none, some (.iload_n 3, 43, 0, 0, 0, 0), some (.iload_n 1, 44, 0, 0, 0, 0), some (.if_icmp .ge 7, 47, 0, 51, 0, 0), none, none, some (.iconst 1, 48, 0, 0, 0, 1), some (.goto 4, 51, 0, 52, 0, 0), none, none, some (.iconst 0, 52, 0, 0, 0, 0), some (.istore 4, 54, 0, 0, 0, 0), none, some (.iload 4, 56, 0, 0, 0, 0), none, some (.ifCond .eq 15, 59, 0, 71, 0, 0), none, none, some (.aload_n 0, 60, 0, 0, 0, 0), some (.getfield 30, 63, 0, 4, 6, 0), none, none, some (.iload_n 3, 64, 0, 0, 0, 0), some (.baload, 65, 0, 0, 0, 0), some (.ifCond .ne 6, 68, 0, 71, 0, 0), none, none, some (.iinc 2 1, 71, 0, 0, 0, 1), none, none, some (.iinc 3 1, 74, 0, 0, 0, 1), none, none, some (.goto (-70), 77, 0, 4, 0, 0), none, none, some (.iload_n 2, 78, 0, 0, 0, 0), some (.ireturn, 79, 0, 0, 0, 0)]
set_option maxRecDepth 20000 in
noncomputable def tb_38 : List (Option RI) := [some (.iconst 0, 1, 0, 0, 0, 0), some (.istore_n 1, 2, 0, 0, 0, 0), some (.iconst 0, 3, 0, 0, 0, 0), some (.istore_n 2, 4, 0, 0, 0, 0), some (.iload_n 2, 5, 0, 0, 0, 0), some (.aload_n 0, 6, 0, 0, 0, 0), some (.getfield 44, 9, 0, 4, 10, 0), none, none, some (.if_icmp .ge 36, 12, 0, 45, 0, 0), none, none, some (.aload_n 0, 13, 0, 0, 0, 0), some (.getfield 30, 16, 0, 4, 6, 0), none, none, some (.iload_n 2, 17, 0, 0, 0, 0), some (.baload, 18, 0, 0, 0, 0), some (.ifCond .ne 21, 21, 0, 39, 0, 0), none, none, some (.aload_n 0, 22, 0, 0, 0, 0), some (.iload_n 2, 23, 0, 0, 0, 0), some (.invokevirtual 77, 26, 20, 37, 1, 0), none, none, some (.aload_n 0, 27, 0, 0, 0, 0), some (.getfield 37, 30, 0, 4, 8, 0), none, none, some (.if_icmp .ge 9, 33, 0, 39, 0, 0), none, none, some (.iload_n 1, 34, 0, 0, 0, 0), some (.iconst 1, 35, 0, 0, 0, 1), some (.iload_n 2, 36, 0, 0, 0, 0), some (.ishl, 37, 0, 0, 0, 0), some (.ior, 38, 0, 0, 0, 0), some (.istore_n 1, 39, 0, 0, 0, 0), some (.iinc 2 1, 42, 0, 0, 0, 1), none, none, some (.goto (-38), 45, 0, 4, 0, 0), none, none, some (.iload_n 1, 46, 0, 0, 0, 0), some (.ireturn, 47, 0, 0, 0, 0)]
set_option maxRecDepth 20000 in
noncomputable def tb_39 : List (Option RI) := [some (.iload_n 2, 1, 0, 0, 0, 0), some (.ifCond .eq 56, 4, 0, 57, 0, 0), none, none, some (.aload_n 0, 5, 0, 0, 0, 0), some (.getfield 21, 8, 0, 4, 3, 0), none, none, some (.iload_n 1, 9, 0, 0, 0, 0), some (.iconst 0, 10, 0, 0, 0, 0), some (.aload_n 0, 11, 0, 0, 0, 0), some (.getfield 21, 14, 0, 4, 3, 0), none, none, some (.iload_n 1, 15, 0, 0, 0, 0), some (.iaload, 16, 0, 0, 0, 0), some (.aload_n 0, 17, 0, 0, 0, 0), some (.getfield 9, 20, 0, 4, 0, 0), none, none, some (.aload_n 0, 21, 0, 0, 0, 0), some (.getfield 27, 24, 0, 4, 5, 0), none, none, some (.iload_n 1, 25, 0, 0, 0, 0), some (.iaload, 26, 0, 0, 0, 0), some (.bipush 8, 28, 0, 0, 0, 8), none, some (.irem, 29, 0, 0, 0, 0), some (.iaload, 30, 0, 0, 0, 0), some (.isub, 31, 0, 0, 0, 0), some (.invokestatic 95, 34, 2, 0, 2, 0), none, none, some (.iastore, 35, 0, 0, 0, 0), some (.aload_n 0, 36, 0, 0, 0, 0), some (.getfield 27, 39, 0, 4, 5, 0), none, none, some (.iload_n 1, 40, 0, 0, 0, 0), some (.bipush 99, 42, 0, 0, 0, 99), none, some (.aload_n 0, 43, 0, 0, 0, 0), some (.getfield 27, 46, 0, 4, 5, 0), none, none, some (.iload_n 1, 47, 0, 0, 0, 0), some (.iaload, 48, 0, 0, 0, 0), some (.iconst 1, 49, 0, 0, 0, 1), some (.iadd, 50, 0, 0, 0, 0), some (.invokestatic 100, 53, 3, 0, 2, 0), none, none, some (.iastore, 54, 0, 0, 0, 0), some (.goto 26, 57, 0, 80, 0, 0), none, none, some (.aload_n 0, 58, 0, 0, 0, 0), some (.getfield 21, 61, 0, 4, 3, 0), none, none, some (.iload_n 1, 62, 0, 0, 0, 0), some (.bipush 99, 64, 0, 0, 0, 99), none, some (.aload_n 0, 65, 0, 0, 0, 0), some (.getfield 21, 68, 0, 4, 3, 0), none, none, some (.iload_n 1, 69, 0, 0, 0, 0), some (.iaload, 70, 0, 0, 0, 0), some (.aload_n 0, 71, 0, 0, 0, 0), some (.iload_n 1, 72, 0, 0, 0, 0), some (.invokevirtual 103, 75, 20, 35, 1, 0), none, none, some (.iadd, 76, 0, 0, 0, 0), some (.invokestatic 100, 79, 3, 0, 2, 0), none, none, some (.iastore, 80, 0, 0, 0, 0), some (.aload_n 0, 81, 0, 0, 0, 0), some (.getfield 30, 84, 0, 4, 6, 0), none, none, some (.iload_n 1, 85, 0, 0, 0, 0), some (.aload_n 0, 86, 0, 0, 0, 0), some (.getfield 51, 89, 0, 4, 12, 0), none, none, some (.ifnull 31, 92, 0, 120, 0, 0), none, none, some (.aload_n 0, 93, 0, 0, 0, 0), some (.aload_n 0, 94, 0, 0, 0, 0), some (.getfield 21, 97, 0, 4, 3, 0), none, none, some (.iload_n 1, 98, 0, 0, 0, 0), some (.iaload, 99, 0, 0, 0, 0), some (.aload_n 0, 100, 0, 0, 0, 0), some (.iload_n 1, 101, 0, 0, 0, 0), some (.invokevirtual 73, 104, 20, 34, 1, 0), none, none, some (.aload_n 0, 105, 0, 0, 0, 0), some (.getfield 27, 108, 0, 4, 5, 0), none, none, some (.iload_n 1, 109, 0, 0, 0, 0), some (.iaload, 110, 0, 0, 0, 0), some (.invokevirtual 106, 113, 20, 33, 3, 0), none, none, some (.ifCond .eq 7, 116, 0, 120, 0, 0), none, none, some (.iconst 1, 117, 0, 0, 0, 1), some (.goto 4, 120, 0, 121, 0, 0), none, none, some (.iconst 0, 121, 0, 0, 0, 0), some (.bastore, 122, 0, 0, 0, 0), some (.return_, 123, 0, 0, 0, 0)]
set_option maxRecDepth 20000 in
noncomputable def tb_40 : List (Option RI) := [some (.aload_n 0, 1, 0, 0, 0, 0), some (.invokevirtual 80, 4, 20, 36, 0, 0), none, none, some (.aload_n 0, 5, 0, 0, 0, 0), some (.invokevirtual 83, 8, 20, 38, 0, 0), none, none, some (.istore_n 1, 9, 0, 0, 0, 0), some (.iconst 0, 10, 0, 0, 0, 0), some (.istore_n 2, 11, 0, 0, 0, 0), some (.iload_n 2, 12, 0, 0, 0, 0), some (.aload_n 0, 13, 0, 0, 0, 0), some (.getfield 44, 16, 0, 4, 10, 0), none, none, some (.if_icmp .ge 28, 19, 0, 44, 0, 0), none, none, some (.aload_n 0, 20, 0, 0, 0, 0), some (.getfield 30, 23, 0, 4, 6, 0), none, none, some (.iload_n 2, 24, 0, 0, 0, 0), some (.baload, 25, 0, 0, 0, 0), some (.ifCond .ne 13, 28, 0, 38, 0, 0), none, none, some (.aload_n 0, 29, 0, 0, 0, 0), some (.iload_n 2, 30, 0, 0, 0, 0), some (.iload_n 1, 31, 0, 0, 0, 0), some (.iload_n 2, 32, 0, 0, 0, 0), some (.invokestatic 87, 35, 1, 52, 2, 0), none, none, some (.invokevirtual 91, 38, 20, 39, 2, 0), none, none, some (.iinc 2 1, 41, 0, 0, 0, 1), none, none, some (.goto (-30), 44, 0, 11, 0, 0), none, none, some (.aload_n 0, 45, 0, 0, 0, 0), some (.dup, 46, 0, 0, 0, 0), some (.getfield 41, 49, 0, 4, 9, 0), none, none, some (.iconst 1, 50, 0, 0, 0, 1), some (.iadd, 51, 0, 0, 0, 0), some (.putfield 41, 54, 0, 4, 9, 0), none, none, some (.iload_n 1, 55, 0, 0, 0, 0), some (.ireturn, 56, 0, 0, 0, 0)]
set_option maxRecDepth 20000 in
noncomputable def tb_41 : List (Option RI) := [some (.iconst 0, 1, 0, 0, 0, 0), some (.istore_n 2, 2, 0, 0, 0, 0), some (.iload_n 2, 3, 0, 0, 0, 0), some (.iload_n 1, 4, 0, 0, 0, 0), some (.if_icmp .ge 14, 7, 0, 18, 0, 0), none, none, some (.aload_n 0, 8, 0, 0, 0, 0), some (.invokevirtual 109, 11, 20, 40, 0, 0), none, none, some (.pop, 12, 0, 0, 0, 0), some (.iinc 2 1, 15, 0, 0, 0, 1), none, none, some (.goto (-13), 18, 0, 2, 0, 0), none, none, some (.return_, 19, 0, 0, 0, 0)]
set_option maxRecDepth 20000 in
noncomputable def tb_42 : List (Option RI) := [some (.aload_n 0, 1, 0, 0, 0, 0), some (.getfield 27, 4, 0, 4, 5, 0), none, none, some (.iload_n 1, 5, 0, 0, 0, 0), some (.iaload, 6, 0, 0, 0, 0), some (.istore_n 3, 7, 0, 0, 0, 0), some (.iconst 1, 8, 0, 0, 0, 1), some (.istore 4, 10, 0, 0, 0, 0), none, some (.iload 4, 12, 0, 0, 0, 0), none, some (.iload_n 2, 13, 0, 0, 0, 0), some (.if_icmp .gt 27, 16, 0, 40, 0, 0), none, none, some (.aload_n 0, 17, 0, 0, 0, 0), some (.invokevirtual 109, 20, 20, 40, 0, 0), none, none, some (.pop, 21, 0, 0, 0, 0), some (.aload_n 0, 22, 0, 0, 0, 0), some (.getfield 27, 25, 0, 4, 5, 0), none, none, some (.iload_n 1, 26, 0, 0, 0, 0), some (.iaload, 27, 0, 0, 0, 0), some (.iload_n 3, 28, 0, 0, 0, 0), some (.if_icmp .le 6, 31, 0, 34, 0, 0), none, none, some (.iload 4, 33, 0, 0, 0, 0), none, some (.ireturn, 34, 0, 0, 0, 0), some (.iinc 4 1, 37, 0, 0, 0, 1), none, none, some (.goto (-27), 40, 0, 10, 0, 0), none, none, some (.iconst 0, 41, 0, 0, 0, 0), some (.ireturn, 42, 0, 0, 0, 0)]
set_option maxRecDepth 20000 in
noncomputable def tb_43 : List (Option RI) := [some (.aload_n 0, 1, 0, 0, 0, 0), some (.getfield 24, 4, 0, 4, 4, 0), none, none, some (.iload_n 1, 5, 0, 0, 0, 0), some (.iload_n 3, 6, 0, 0, 0, 0), some (.iastore, 7, 0, 0, 0, 0), some (.aload_n 0, 8, 0, 0, 0, 0), some (.getfield 27, 11, 0, 4, 5, 0), none, none, some (.iload_n 1, 12, 0, 0, 0, 0), some (.iaload, 13, 0, 0, 0, 0), some (.istore 4, 15, 0, 0, 0, 0), none, some (.iconst 0, 16, 0, 0, 0, 0), some (.istore 5, 18, 0, 0, 0, 0), none, some (.iload 5, 20, 0, 0, 0, 0), none, some (.iload_n 2, 21, 0, 0, 0, 0), some (.if_icmp .ge 25, 24, 0, 46, 0, 0), none, none, some (.aload_n 0, 25, 0, 0, 0, 0), some (.getfield 27, 28, 0, 4, 5, 0), none, none, some (.iload_n 1, 29, 0, 0, 0, 0), some (.iaload, 30, 0, 0, 0, 0), some (.iload 4, 32, 0, 0, 0, 0), none, some (.if_icmp .gt 14, 35, 0, 46, 0, 0), none, none, some (.aload_n 0, 36, 0, 0, 0, 0), some (.invokevirtual 109, 39, 20, 40, 0, 0), none, none, some (.pop, 40, 0, 0, 0, 0), some (.iinc 5 1, 43, 0, 0, 0, 1), none, none, some (.goto (-25), 46, 0, 18, 0, 0), none, none, some (.aload_n 0, 47, 0, 0, 0, 0), some (.getfield 27, 50, 0, 4, 5, 0), none, none, some (.iload_n 1, 51, 0, 0, 0, 0), some (.iaload, 52, 0, 0, 0, 0), some (.iload 4, 54, 0, 0, 0, 0), none, some (.if_icmp .le 7, 57, 0, 61, 0, 0), none, none, some (.iconst 1, 58, 0, 0, 0, 1), some (.goto 4, 61, 0, 62, 0, 0), none, none, some (.iconst 0, 62, 0, 0, 0, 0), some (.ireturn, 63, 0, 0, 0, 0)]
set_option maxRecDepth 20000 in
noncomputable def tb_44 : List (Option RI) := [some (.iconst 0, 1, 0, 0, 0, 0), some (.istore_n 3, 2, 0, 0, 0, 0), some (.iload_n 3, 3, 0, 0, 0, 0), some (.aload_n 0, 4, 0, 0, 0, 0), some (.getfield 44, 7, 0, 4, 10, 0), none, none, some (.if_icmp .ge 24, 10, 0, 31, 0, 0), none, none, some (.iload_n 1, 11, 0, 0, 0, 0), some (.iload_n 3, 12, 0, 0, 0, 0), some (.invokestatic 87, 15, 1, 52, 2, 0), none, none, some (.ifCond .eq 10, 18, 0, 25, 0, 0), none, none, some (.aload_n 0, 19, 0, 0, 0, 0), some (.getfield 24, 22, 0, 4, 4, 0), none, none, some (.iload_n 3, 23, 0, 0, 0, 0), some (.iload_n 2, 24, 0, 0, 0, 0), some (.iastore, 25, 0, 0, 0, 0), some (.iinc 3 1, 28, 0, 0, 0, 1), none, none, some (.goto (-26), 31, 0, 2, 0, 0), none, none, some (.return_, 32, 0, 0, 0, 0)]
set_option maxRecDepth 20000 in
noncomputable def tb_45 : List (Option RI) := [some (.iconst 0, 1, 0, 0, 0, 0), some (.istore_n 1, 2, 0, 0, 0, 0), some (.iconst 0, 3, 0, 0, 0, 0), some (.istore_n 2, 4, 0, 0, 0, 0), some (.iload_n 2, 5, 0, 0, 0, 0), some (.aload_n 0, 6, 0, 0, 0, 0), some (.getfield 44, 9, 0, 4, 10, 0), none, none, some (.if_icmp .ge 18, 12, 0, 27, 0, 0), none, none, some (.iload_n 1, 13, 0, 0, 0, 0), some (.aload_n 0, 14, 0, 0, 0, 0), some (.getfield 21, 17, 0, 4, 3, 0), none, none, some (.iload_n 2, 18, 0, 0, 0, 0), some (.iaload, 19, 0, 0, 0, 0), some (.iadd, 20, 0, 0, 0, 0), some (.istore_n 1, 21, 0, 0, 0, 0), some (.iinc 2 1, 24, 0, 0, 0, 1), none, none, some (.goto (-20), 27, 0, 4, 0, 0), none, none, some (.iload_n 1, 28, 0, 0, 0, 0), some (.ireturn, 29, 0, 0, 0, 0)]
set_option maxRecDepth 20000 in
noncomputable def tb_46 : List (Option RI) := [some (.iconst 0, 1, 0, 0, 0, 0), some (.istore_n 1, 2, 0, 0, 0, 0), some (.iconst 0, 3, 0, 0, 0, 0), some (.istore_n 2, 4, 0, 0, 0, 0), some (.iload_n 2, 5, 0, 0, 0, 0), some (.aload_n 0, 6, 0, 0, 0, 0), some (.getfield 44, 9, 0, 4, 10, 0), none, none, some (.if_icmp .ge 20, 12, 0, 29, 0, 0), none, none, some (.iload_n 1, 13, 0, 0, 0, 0), some (.aload_n 0, 14, 0, 0, 0, 0), some (.getfield 21, 17, 0, 4, 3, 0), none, none, some (.iload_n 2, 18, 0, 0, 0, 0), some (.iaload, 19, 0, 0, 0, 0), some (.invokestatic 95, 22, 2, 0, 2, 0), none, none, some (.istore_n 1, 23, 0, 0, 0, 0), some (.iinc 2 1, 26, 0, 0, 0, 1), none, none, some (.goto (-22), 29, 0, 4, 0, 0), none, none, some (.iload_n 1, 30, 0, 0, 0, 0), some (.ireturn, 31, 0, 0, 0, 0)]
set_option maxRecDepth 20000 in
noncomputable def tb_47 : List (Option RI) := [some (.iconst 0, 1, 0, 0, 0, 0), some (.istore_n 1, 2, 0, 0, 0, 0), some (.iconst 0, 3, 0, 0, 0, 0), some (.istore_n 2, 4, 0, 0, 0, 0), some (.iload_n 2, 5, 0, 0, 0, 0), some (.aload_n 0, 6, 0, 0, 0, 0), some (.getfield 44, 9, 0, 4, 10, 0), none, none, some (.if_icmp .ge 18, 12, 0, 27, 0, 0), none, none, some (.iload_n 1, 13, 0, 0, 0, 0), some (.aload_n 0, 14, 0, 0, 0, 0), some (.getfield 27, 17, 0, 4, 5, 0), none, none, some (.iload_n 2, 18, 0, 0, 0, 0), some (.iaload, 19, 0, 0, 0, 0), some (.iadd, 20, 0, 0, 0, 0), some (.istore_n 1, 21, 0, 0, 0, 0), some (.iinc 2 1, 24, 0, 0, 0, 1), none, none, some (.goto (-20), 27, 0, 4, 0, 0), none, none, some (.iload_n 1, 28, 0, 0, 0, 0), some (.ireturn, 29, 0, 0, 0, 0)]
set_option maxRecDepth 20000 in
noncomputable def tb_48 : List (Option RI) := [some (.iconst 0, 1, 0, 0, 0, 0), some (.istore_n 1, 2, 0, 0, 0, 0), some (.iconst 0, 3, 0, 0, 0, 0), some (.istore_n 2, 4, 0, 0, 0, 0), some (.iload_n 2, 5, 0, 0, 0, 0), some (.aload_n 0, 6, 0, 0, 0, 0), some (.getfield 44, 9, 0, 4, 10, 0), none, none, some (.if_icmp .ge 21, 12, 0, 30, 0, 0), none, none, some (.aload_n 0, 13, 0, 0, 0, 0), some (.getfield 30, 16, 0, 4, 6, 0), none, none, some (.iload_n 2, 17, 0, 0, 0, 0), some (.baload, 18, 0, 0, 0, 0), some (.ifCond .eq 6, 21, 0, 24, 0, 0), none, none, some (.iinc 1 1, 24, 0, 0, 0, 1), none, none, some (.iinc 2 1, 27, 0, 0, 0, 1), none, none, some (.goto (-23), 30, 0, 4, 0, 0), none, none, some (.iload_n 1, 31, 0, 0, 0, 0), some (.ireturn, 32, 0, 0, 0, 0)]
set_option maxRecDepth 20000 in
noncomputable def tb_49 : List (Option RI) := [some (.aload_n 0, 1, 0, 0, 0, 0), some (.invokespecial 3, 4, 12, 0, 0, 0), none, none, some (.aload_n 0, 5, 0, 0, 0, 0), some (.iconst 0, 6, 0, 0, 0, 0), some (.putfield 9, 9, 0, 5, 0, 0), none, none, some (.aload_n 0, 10, 0, 0, 0, 0), some (.iconst 0, 11, 0, 0, 0, 0), some (.putfield 15, 14, 0, 5, 1, 0), none, none, some (.aload_n 0, 15, 0, 0, 0, 0), some (.iconst 0, 16, 0, 0, 0, 0), some (.putfield 18, 19, 0, 5, 2, 0), none, none, some (.aload_n 0, 20, 0, 0, 0, 0), some (.bipush 40, 22, 0, 0, 0, 40), none, some (.newarray .int, 24, 0, 0, 0, 0), none, some (.putfield 21, 27, 0, 5, 3, 0), none, none, some (.aload_n 0, 28, 0, 0, 0, 0), some (.iconst 0, 29, 0, 0, 0, 0), some (.putfield 25, 32, 0, 5, 4, 0), none, none, some (.return_, 33, 0, 0, 0, 0)]
set_option maxRecDepth 20000 in
noncomputable def tb_50 : List (Option RI) := [some (.aload_n 0, 1, 0, 0, 0, 0), some (.getfield 25, 4, 0, 5, 4, 0), none, none, some (.bipush 40, 6, 0, 0, 0, 40), none, some (.if_icmp .ge 23, 9, 0, 29, 0, 0), none, none, some (.aload_n 0, 10, 0, 0, 0, 0), some (.getfield 21, 13, 0, 5, 3, 0), none, none, some (.aload_n 0, 14, 0, 0, 0, 0), some (.getfield 25, 17, 0, 5, 4, 0), none, none, some (.iload_n 1, 18, 0, 0, 0, 0), some (.iastore, 19, 0, 0, 0, 0), some (.aload_n 0, 20, 0, 0, 0, 0), some (.dup, 21, 0, 0, 0, 0), some (.getfield 25, 24, 0, 5, 4, 0), none, none, some (.iconst 1, 25, 0, 0, 0, 1), some (.iadd, 26, 0, 0, 0, 0), some (.putfield 25, 29, 0, 5, 4, 0), none, none, some (.return_, 30, 0, 0, 0, 0)]
set_option maxRecDepth 20000 in
noncomputable def tb_51 : List (Option RI) := [some (.iload_n 0, 1, 0, 0, 0, 0), some (.ifCond .ge 7, 4, 0, 8, 0, 0), none, none, some (.iconst 0, 5, 0, 0, 0, 0), some (.goto 13, 8, 0, 18, 0, 0), none, none, some (.iload_n 0, 9, 0, 0, 0, 0), some (.iload_n 1, 10, 0, 0, 0, 0), some (.if_icmp .le 7, 13, 0, 17, 0, 0), none, none, some (.iload_n 1, 14, 0, 0, 0, 0), some (.goto 4, 17, 0, 18, 0, 0), none, none, some (.iload_n 0, 18, 0, 0, 0, 0), some (.ireturn, 19, 0, 0, 0, 0)]
set_option maxRecDepth 20000 in
noncomputable def tb_52 : List (Option RI) := [some (.iload_n 0, 1, 0, 0, 0, 0), some (.iload_n 1, 2, 0, 0, 0, 0), some (.ishr, 3, 0, 0, 0, 0), some (.iconst 1, 4, 0, 0, 0, 1), some (.iand, 5, 0, 0, 0, 0), some (.ifCond .eq 7, 8, 0, 12, 0, 0), none, none, some (.iconst 1, 9, 0, 0, 0, 1), some (.goto 4, 12, 0, 13, 0, 0), none, none, some (.iconst 0, 13, 0, 0, 0, 0), some (.ireturn, 14, 0, 0, 0, 0)]
set_option maxRecDepth 20000 in
noncomputable def tb_53 : List (Option RI) := [some (.aload_n 0, 1, 0, 0, 0, 0), some (.invokespecial 1, 4, 12, 0, 0, 0), none, none, some (.aload_n 0, 5, 0, 0, 0, 0), some (.new 7, 8, 0, 4, 13, 0), none, none, some (.dup, 9, 0, 0, 0, 0), some (.invokespecial 9, 12, 11, 30, 0, 0), none, none, some (.putfield 10, 15, 0, 6, 0, 0), none, none, some (.aload_n 0, 16, 0, 0, 0, 0), some (.new 7, 19, 0, 4, 13, 0), none, none, some (.dup, 20, 0, 0, 0, 0), some (.invokespecial 9, 23, 11, 30, 0, 0), none, none, some (.putfield 16, 26, 0, 6, 1, 0), none, none, some (.aload_n 0, 27, 0, 0, 0, 0), some (.new 7, 30, 0, 4, 13, 0), none, none, some (.dup, 31, 0, 0, 0, 0), some (.invokespecial 9, 34, 11, 30, 0, 0), none, none, some (.putfield 19, 37, 0, 6, 2, 0), none, none, some (.aload_n 0, 38, 0, 0, 0, 0), some (.new 7, 41, 0, 4, 13, 0), none, none, some (.dup, 42, 0, 0, 0, 0), some (.invokespecial 9, 45, 11, 30, 0, 0), none, none, some (.putfield 22, 48, 0, 6, 3, 0), none, none, some (.aload_n 0, 49, 0, 0, 0, 0), some (.new 25, 52, 0, 0, 5, 0), none, none, some (.dup, 53, 0, 0, 0, 0), some (.invokespecial 27, 56, 11, 10, 0, 0), none, none, some (.putfield 28, 59, 0, 6, 4, 0), none, none, some (.aload_n 0, 60, 0, 0, 0, 0), some (.new 25, 63, 0, 0, 5, 0), none, none, some (.dup, 64, 0, 0, 0, 0), some (.invokespecial 27, 67, 11, 10, 0, 0), none, none, some (.putfield 32, 70, 0, 6, 5, 0), none, none, some (.aload_n 0, 71, 0, 0, 0, 0), some (.iconst 0, 72, 0, 0, 0, 0), some (.putfield 35, 75, 0, 6, 6, 0), none, none, some (.aload_n 0, 76, 0, 0, 0, 0), some (.new 39, 79, 0, 2, 7, 0), none, none, some (.dup, 80, 0, 0, 0, 0), some (.aload_n 0, 81, 0, 0, 0, 0), some (.getfield 28, 84, 0, 6, 4, 0), none, none, some (.getfield 41, 87, 0, 0, 1, 0), none, none, some (.invokespecial 45, 90, 10, 15, 1, 0), none, none, some (.putfield 48, 93, 0, 6, 7, 0), none, none, some (.aload_n 0, 94, 0, 0, 0, 0), some (.new 52, 97, 0, 5, 5, 0), none, none, some (.dup, 98, 0, 0, 0, 0), some (.invokespecial 54, 101, 11, 49, 0, 0), none, none, some (.putfield 55, 104, 0, 6, 8, 0), none, none, some (.aload_n 0, 105, 0, 0, 0, 0), some (.iconst 4, 106, 0, 0, 0, 4), some (.anewarray 59, 109, 0, 2, 0, 0), none, none, some (.dup, 110, 0, 0, 0, 0), some (.iconst 0, 111, 0, 0, 0, 0), some (.new 59, 114, 0, 3, 3, 0), none, none, some (.dup, 115, 0, 0, 0, 0), some (.invokespecial 61, 118, 11, 26, 0, 0), none, none, some (.aastore, 119, 0, 0, 0, 0), some (.dup, 120, 0, 0, 0, 0), some (.iconst 1, 121, 0, 0, 0, 1), some (.new 59, 124, 0, 3, 3, 0), none, none, some (.dup, 125, 0, 0, 0, 0), some (.invokespecial 61, 128, 11, 26, 0, 0), none, none, some (.aastore, 129, 0, 0, 0, 0), some (.dup, 130, 0, 0, 0, 0), some (.iconst 2, 131, 0, 0, 0, 2), some (.new 59, 134, 0, 3, 3, 0), none, none, some (.dup, 135, 0, 0, 0, 0), some (.invokespecial 61, 138, 11, 26, 0, 0), none, none, some (.aastore, 139, 0, 0, 0, 0), some (.dup, 140, 0, 0, 0, 0), some (.iconst 3, 141, 0, 0, 0, 3), some (.new 59, 144, 0, 3, 3, 0), none, none, some (.dup, 145, 0, 0, 0, 0), some (.invokespecial 61, 148, 11, 26, 0, 0), none, none, some (.aastore, 149, 0, 0, 0, 0), some (.putfield 62, 152, 0, 6, 9, 0), none, none, some (.aload_n 0, 153, 0, 0, 0, 0), some (.bipush 6, 155, 0, 0, 0, 6), none, some (.newarray .int, 157, 0, 0, 0, 0), none, some (.putfield 66, 160, 0, 6, 10, 0), none, none, some (.return_, 161, 0, 0, 0, 0)]
set_option maxRecDepth 20000 in
noncomputable def tb_54 : List (Option RI) := [some (.iload_n 0, 1, 0, 0, 0, 0), some (.ifCond .lt 12, 4, 0, 13, 0, 0), none, none, some (.iload_n 0, 5, 0, 0, 0, 0), some (.iload_n 1, 6, 0, 0, 0, 0), some (.if_icmp .gt 7, 9, 0, 13, 0, 0), none, none, some (.iconst 1, 10, 0, 0, 0, 1), some (.goto 4, 13, 0, 14, 0, 0), none, none, some (.iconst 0, 14, 0, 0, 0, 0), some (.ireturn, 15, 0, 0, 0, 0)]
set_option maxRecDepth 20000 in
noncomputable def tb_55 : List (Option RI) := [some (.aload_n 0, 1, 0, 0, 0, 0), some (.getfield 66, 4, 0, 6, 10, 0), none, none, some (.iload_n 1, 5, 0, 0, 0, 0), some (.dup2, 6, 0, 0, 0, 0), some (.iaload, 7, 0, 0, 0, 0), some (.iconst 1, 8, 0, 0, 0, 1), some (.iadd, 9, 0, 0, 0, 0), some (.iastore, 10, 0, 0, 0, 0), some (.ldc_w 296, 13, 0, 0, 0, -1000000000), none, none, some (.iload_n 1, 14, 0, 0, 0, 0), some (.isub, 15, 0, 0, 0, 0), some (.ireturn, 16, 0, 0, 0, 0)]
set_option maxRecDepth 20000 in
noncomputable def tb_56 : List (Option RI) := [some (.iload_n 1, 1, 0, 0, 0, 0), some (.bipush 7, 3, 0, 0, 0, 7), none, some (.invokestatic 69, 6, 0, 54, 2, 0), none, none, some (.ifCond .eq 12, 9, 0, 18, 0, 0), none, none, some (.iload_n 2, 10, 0, 0, 0, 0), some (.bipush 30, 12, 0, 0, 0, 30), none, some (.invokestatic 69, 15, 0, 54, 2, 0), none, none, some (.ifCond .ne 9, 18, 0, 24, 0, 0), none, none, some (.aload_n 0, 19, 0, 0, 0, 0), some (.iconst 1, 20, 0, 0, 0, 1), some (.invokevirtual 73, 23, 20, 55, 1, 0), none, none, some (.ireturn, 24, 0, 0, 0, 0), some (.aload_n 0, 25, 0, 0, 0, 0), some (.getfield 10, 28, 0, 6, 0, 0), none, none, some (.getfield 77, 31, 0, 4, 0, 0), none, none, some (.iload_n 1, 32, 0, 0, 0, 0), some (.iaload, 33, 0, 0, 0, 0), some (.istore_n 3, 34, 0, 0, 0, 0), some (.aload_n 0, 35, 0, 0, 0, 0), some (.getfield 10, 38, 0, 6, 0, 0), none, none, some (.getfield 77, 41, 0, 4, 0, 0), none, none, some (.iload_n 1, 42, 0, 0, 0, 0), some (.iload_n 2, 43, 0, 0, 0, 0), some (.iastore, 44, 0, 0, 0, 0), some (.iload_n 3, 45, 0, 0, 0, 0), some (.ireturn, 46, 0, 0, 0, 0)]
set_option maxRecDepth 20000 in
noncomputable def tb_57 : List (Option RI) := [some (.iload_n 1, 1, 0, 0, 0, 0), some (.bipush 7, 3, 0, 0, 0, 7), none, some (.invokestatic 69, 6, 0, 54, 2, 0), none, none, some (.ifCond .ne 9, 9, 0, 15, 0, 0), none, none, some (.aload_n 0, 10, 0, 0, 0, 0), some (.iconst 1, 11, 0, 0, 0, 1), some (.invokevirtual 73, 14, 20, 55, 1, 0), none, none, some (.ireturn, 15, 0, 0, 0, 0), some (.aload_n 0, 16, 0, 0, 0, 0), some (.getfield 10, 19, 0, 6, 0, 0), none, none, some (.getfield 77, 22, 0, 4, 0, 0), none, none, some (.iload_n 1, 23, 0, 0, 0, 0), some (.iaload, 24, 0, 0, 0, 0), some (.ireturn, 25, 0, 0, 0, 0)]
set_option maxRecDepth 20000 in
noncomputable def tb_58 : List (Option RI) := [some (.iload_n 1, 1, 0, 0, 0, 0), some (.iconst 1, 2, 0, 0, 0, 1), some (.if_icmp .lt 8, 5, 0, 10, 0, 0), none, none, some (.iload_n 1, 6, 0, 0, 0, 0), some (.iconst 4, 7, 0, 0, 0, 4), some (.if_icmp .le 9, 10, 0, 16, 0, 0), none, none, some (.aload_n 0, 11, 0, 0, 0, 0), some (.iconst 1, 12, 0, 0, 0, 1), some (.invokevirtual 73, 15, 20, 55, 1, 0), none, none, some (.ireturn, 16, 0, 0, 0, 0), some (.aload_n 0, 17, 0, 0, 0, 0), some (.getfield 10, 20, 0, 6, 0, 0), none, none, some (.getfield 80, 23, 0, 4, 8, 0), none, none, some (.istore_n 2, 24, 0, 0, 0, 0), some (.aload_n 0, 25, 0, 0, 0, 0), some (.getfield 10, 28, 0, 6, 0, 0), none, none, some (.iload_n 1, 29, 0, 0, 0, 0), some (.putfield 80, 32, 0, 4, 8, 0), none, none, some (.iload_n 2, 33, 0, 0, 0, 0), some (.ireturn, 34, 0, 0, 0, 0)]
set_option maxRecDepth 20000 in
noncomputable def tb_59 : List (Option RI) := [some (.iload_n 1, 1, 0, 0, 0, 0), some (.bipush 69, 3, 0, 0, 0, 69), none, some (.invokestatic 69, 6, 0, 54, 2, 0), none, none, some (.ifCond .eq 21, 9, 0, 27, 0, 0), none, none, some (.iload_n 2, 10, 0, 0, 0, 0), some (.bipush 99, 12, 0, 0, 0, 99), none, some (.invokestatic 69, 15, 0, 54, 2, 0), none, none, some (.ifCond .eq 12, 18, 0, 27, 0, 0), none, none, some (.iload_n 3, 19, 0, 0, 0, 0), some (.bipush 9, 21, 0, 0, 0, 9), none, some (.invokestatic 69, 24, 0, 54, 2, 0), none, none, some (.ifCond .ne 9, 27, 0, 33, 0, 0), none, none, some (.aload_n 0, 28, 0, 0, 0, 0), some (.iconst 1, 29, 0, 0, 0, 1), some (.invokevirtual 73, 32, 20, 55, 1, 0), none, none, some (.ireturn, 33, 0, 0, 0, 0), some (.aload_n 0, 34, 0, 0, 0, 0), some (.getfield 10, 37, 0, 6, 0, 0), none, none, some (.getfield 83, 40, 0, 4, 10, 0), none, none, some (.bipush 8, 42, 0, 0, 0, 8), none, some (.if_icmp .lt 9, 45, 0, 51, 0, 0), none, none, some (.aload_n 0, 46, 0, 0, 0, 0), some (.iconst 4, 47, 0, 0, 0, 4), some (.invokevirtual 73, 50, 20, 55, 1, 0), none, none, some (.ireturn, 51, 0, 0, 0, 0), some (.aload_n 0, 52, 0, 0, 0, 0), some (.getfield 10, 55, 0, 6, 0, 0), none, none, some (.getfield 83, 58, 0, 4, 10, 0), none, none, some (.istore 4, 60, 0, 0, 0, 0), none, some (.aload_n 0, 61, 0, 0, 0, 0), some (.getfield 10, 64, 0, 6, 0, 0), none, none, some (.getfield 86, 67, 0, 4, 1, 0), none, none, some (.iload 4, 69, 0, 0, 0, 0), none, some (.iload_n 1, 70, 0, 0, 0, 0), some (.bipush 10, 72, 0, 0, 0, 10), none, some (.idiv, 73, 0, 0, 0, 0), some (.iastore, 74, 0, 0, 0, 0), some (.aload_n 0, 75, 0, 0, 0, 0), some (.getfield 10, 78, 0, 6, 0, 0), none, none, some (.getfield 89, 81, 0, 4, 2, 0), none, none, some (.iload 4, 83, 0, 0, 0, 0), none, some (.iload_n 1, 84, 0, 0, 0, 0), some (.bipush 10, 86, 0, 0, 0, 10), none, some (.irem, 87, 0, 0, 0, 0), some (.iastore, 88, 0, 0, 0, 0), some (.aload_n 0, 89, 0, 0, 0, 0), some (.getfield 10, 92, 0, 6, 0, 0), none, none, some (.getfield 92, 95, 0, 4, 3, 0), none, none, some (.iload 4, 97, 0, 0, 0, 0), none, some (.iload_n 2, 98, 0, 0, 0, 0), some (.iastore, 99, 0, 0, 0, 0), some (.aload_n 0, 100, 0, 0, 0, 0), some (.getfield 10, 103, 0, 6, 0, 0), none, none, some (.getfield 95, 106, 0, 4, 4, 0), none, none, some (.iload 4, 108, 0, 0, 0, 0), none, some (.iload_n 3, 109, 0, 0, 0, 0), some (.iastore, 110, 0, 0, 0, 0), some (.aload_n 0, 111, 0, 0, 0, 0), some (.getfield 10, 114, 0, 6, 0, 0), none, none, some (.getfield 98, 117, 0, 4, 5, 0), none, none, some (.iload 4, 119, 0, 0, 0, 0), none, some (.iconst 0, 120, 0, 0, 0, 0), some (.iastore, 121, 0, 0, 0, 0), some (.aload_n 0, 122, 0, 0, 0, 0), some (.getfield 10, 125, 0, 6, 0, 0), none, none, some (.getfield 101, 128, 0, 4, 6, 0), none, none, some (.iload 4, 130, 0, 0, 0, 0), none, some (.iconst 0, 131, 0, 0, 0, 0), some (.bastore, 132, 0, 0, 0, 0), some (.aload_n 0, 133, 0, 0, 0, 0), some (.getfield 10, 136, 0, 6, 0, 0), none, none, some (.iload 4, 138, 0, 0, 0, 0), none, some (.iconst 1, 139, 0, 0, 0, 1), some (.iadd, 140, 0, 0, 0, 0), some (.putfield 83, 143, 0, 4, 10, 0), none, none, some (.iload 4, 145, 0, 0, 0, 0), none, some (.ireturn, 146, 0, 0, 0, 0)]
set_option maxRecDepth 20000 in
noncomputable def tb_60 : List (Option RI) := [some (.iload_n 1, 1, 0, 0, 0, 0), some (.ifCond .lt 18, 4, 0, 19, 0, 0), none, none, some (.iload_n 1, 5, 0, 0, 0, 0), some (.aload_n 0, 6, 0, 0, 0, 0), some (.getfield 10, 9, 0, 6, 0, 0), none, none, some (.getfield 83, 12, 0, 4, 10, 0), none, none, some (.if_icmp .ge 7, 15, 0, 19, 0, 0), none, none, some (.iconst 1, 16, 0, 0, 0, 1), some (.goto 4, 19, 0, 20, 0, 0), none, none, some (.iconst 0, 20, 0, 0, 0, 0), some (.ireturn, 21, 0, 0, 0, 0)]
set_option maxRecDepth 20000 in
noncomputable def tb_61 : List (Option RI) := [some (.aload_n 0, 1, 0, 0, 0, 0), some (.iload_n 1, 2, 0, 0, 0, 0), some (.invokevirtual 105, 5, 20, 60, 1, 0), none, none, some (.ifCond .ne 9, 8, 0, 14, 0, 0), none, none, some (.aload_n 0, 9, 0, 0, 0, 0), some (.iconst 1, 10, 0, 0, 0, 1), some (.invokevirtual 73, 13, 20, 55, 1, 0), none, none, some (.ireturn, 14, 0, 0, 0, 0), some (.iload_n 2, 15, 0, 0, 0, 0), some (.tableswitch 118 0 6 #[41, 51, 61, 71, 81, 91, 109], 56, 0, 0, 0, 0), none, none, none, none, none, none, none, none, none, none, none, none, none, none, none, none, none, none, none, none, none, none, none, none, none, none, none, none, none, none, none, none, none, none, none, none, none, none, none, none, some (.aload_n 0, 57, 0, 0, 0, 0), some (.getfield 10, 60, 0, 6, 0, 0), none, none, some (.getfield 86, 63, 0, 4, 1, 0), none, none, some (.iload_n 1, 64, 0, 0, 0, 0), some (.iaload, 65, 0, 0, 0, 0), some (.ireturn, 66, 0, 0, 0, 0), some (.aload_n 0, 67, 0, 0, 0, 0), some (.getfield 10, 70, 0, 6, 0, 0), none, none, some (.getfield 89, 73, 0, 4, 2, 0), none, none, some (.iload_n 1, 74, 0, 0, 0, 0), some (.iaload, 75, 0, 0, 0, 0), some (.ireturn, 76, 0, 0, 0, 0), some (.aload_n 0, 77, 0, 0, 0, 0), some (.getfield 10, 80, 0, 6, 0, 0), none, none, some (.getfield 92, 83, 0, 4, 3, 0), none, none, some (.iload_n 1, 84, 0, 0, 0, 0), some (.iaload, 85, 0, 0, 0, 0), some (.ireturn, 86, 0, 0, 0, 0), some (.aload_n 0, 87, 0, 0, 0, 0), some (.getfield 10, 90, 0, 6, 0, 0), none, none, some (.getfield 95, 93, 0, 4, 4, 0), none, none, some (.iload_n 1, 94, 0, 0, 0, 0), some (.iaload, 95, 0, 0, 0, 0), some (.ireturn, 96, 0, 0, 0, 0), some (.aload_n 0, 97, 0, 0, 0, 0), some (.getfield 10, 100, 0, 6, 0, 0), none, none, some (.getfield 98, 103, 0, 4, 5, 0), none, none, some (.iload_n 1, 104, 0, 0, 0, 0), some (.iaload, 105, 0, 0, 0, 0), some (.ireturn, 106, 0, 0, 0, 0), some (.aload_n 0, 107, 0, 0, 0, 0), some (.getfield 10, 110, 0, 6, 0, 0), none, none, some (.getfield 101, 113, 0, 4, 6, 0), none, none, some (.iload_n 1, 114, 0, 0, 0, 0), some (.baload, 115, 0, 0, 0, 0), some (.ifCond .eq 7, 118, 0, 122, 0, 0), none, none, some (.iconst 1, 119, 0, 0, 0, 1), some (.goto 4, 122, 0, 123, 0, 0), none, none, some (.iconst 0, 123, 0, 0, 0, 0), some (.ireturn, 124, 0, 0, 0, 0), some (.aload_n 0, 125, 0, 0, 0, 0), some (.getfield 10, 128, 0, 6, 0, 0), none, none, some (.iload_n 1, 129, 0, 0, 0, 0), some (.invokevirtual 109, 132, 20, 34, 1, 0), none, none, some (.ireturn, 133, 0, 0, 0, 0), some (.aload_n 0, 134, 0, 0, 0, 0), some (.iconst 1, 135, 0, 0, 0, 1), some (.invokevirtual 73, 138, 20, 55, 1, 0), none, none, some (.ireturn, 139, 0, 0, 0, 0)]
set_option maxRecDepth 20000 in
noncomputable def tb_62 : List (Option RI) := [some (.iload_n 0, 1, 0, 0, 0, 0), some (.tableswitch 36 0 2 #[27, 30, 33], 28, 0, 0, 0, 0), none, none, none, none, none, none, none, none, none, none, none, none, none, none, none, none, none, none, none, none, none, none, none, none, none, none, some (.bipush 99, 30, 0, 0, 0, 99), none, some (.ireturn, 31, 0, 0, 0, 0), some (.bipush 9, 33, 0, 0, 0, 9), none, some (.ireturn, 34, 0, 0, 0, 0), some (.bipush 99, 36, 0, 0, 0, 99), none, some (.ireturn, 37, 0, 0, 0, 0), some (.iconst 1, 38, 0, 0, 0, 1), some (.ireturn, 39, 0, 0, 0, 0)]
set_option maxRecDepth 20000 in
noncomputable def tb_63 : List (Option RI) := [some (.aload_n 0, 1, 0, 0, 0, 0), some (.iload_n 1, 2, 0, 0, 0, 0), some (.invokevirtual 105, 5, 20, 60, 1, 0), none, none, some (.ifCond .eq 22, 8, 0, 27, 0, 0), none, none, some (.iload_n 2, 9, 0, 0, 0, 0), some (.iconst 3, 10, 0, 0, 0, 3), some (.invokestatic 69, 13, 0, 54, 2, 0), none, none, some (.ifCond .eq 14, 16, 0, 27, 0, 0), none, none, some (.iload_n 3, 17, 0, 0, 0, 0), some (.iload_n 2, 18, 0, 0, 0, 0), some (.invokestatic 112, 21, 0, 62, 1, 0), none, none, some (.invokestatic 69, 24, 0, 54, 2, 0), none, none, some (.ifCond .ne 9, 27, 0, 33, 0, 0), none, none, some (.aload_n 0, 28, 0, 0, 0, 0), some (.iconst 1, 29, 0, 0, 0, 1), some (.invokevirtual 73, 32, 20, 55, 1, 0), none, none, some (.ireturn, 33, 0, 0, 0, 0), some (.iload_n 2, 34, 0, 0, 0, 0), some (.iconst 3, 35, 0, 0, 0, 3), some (.if_icmp .ne 44, 38, 0, 79, 0, 0), none, none, some (.aload_n 0, 39, 0, 0, 0, 0), some (.getfield 10, 42, 0, 6, 0, 0), none, none, some (.getfield 101, 45, 0, 4, 6, 0), none, none, some (.iload_n 1, 46, 0, 0, 0, 0), some (.baload, 47, 0, 0, 0, 0), some (.ifCond .eq 7, 50, 0, 54, 0, 0), none, none, some (.iconst 1, 51, 0, 0, 0, 1), some (.goto 4, 54, 0, 55, 0, 0), none, none, some (.iconst 0, 55, 0, 0, 0, 0), some (.istore 4, 57, 0, 0, 0, 0), none, some (.aload_n 0, 58, 0, 0, 0, 0), some (.getfield 10, 61, 0, 6, 0, 0), none, none, some (.getfield 101, 64, 0, 4, 6, 0), none, none, some (.iload_n 1, 65, 0, 0, 0, 0), some (.iload_n 3, 66, 0, 0, 0, 0), some (.iconst 1, 67, 0, 0, 0, 1), some (.if_icmp .ne 7, 70, 0, 74, 0, 0), none, none, some (.iconst 1, 71, 0, 0, 0, 1), some (.goto 4, 74, 0, 75, 0, 0), none, none, some (.iconst 0, 75, 0, 0, 0, 0), some (.bastore, 76, 0, 0, 0, 0), some (.iload 4, 78, 0, 0, 0, 0), none, some (.ireturn, 79, 0, 0, 0, 0), some (.iload_n 2, 80, 0, 0, 0, 0), some (.ifCond .ne 13, 83, 0, 93, 0, 0), none, none, some (.aload_n 0, 84, 0, 0, 0, 0), some (.getfield 10, 87, 0, 6, 0, 0), none, none, some (.getfield 92, 90, 0, 4, 3, 0), none, none, some (.goto 25, 93, 0, 115, 0, 0), none, none, some (.iload_n 2, 94, 0, 0, 0, 0), some (.iconst 1, 95, 0, 0, 0, 1), some (.if_icmp .ne 13, 98, 0, 108, 0, 0), none, none, some (.aload_n 0, 99, 0, 0, 0, 0), some (.getfield 10, 102, 0, 6, 0, 0), none, none, some (.getfield 95, 105, 0, 4, 4, 0), none, none, some (.goto 10, 108, 0, 115, 0, 0), none, none, some (.aload_n 0, 109, 0, 0, 0, 0), some (.getfield 10, 112, 0, 6, 0, 0), none, none, some (.getfield 98, 115, 0, 4, 5, 0), none, none, some (.astore 4, 117, 0, 0, 0, 0), none, some (.aload 4, 119, 0, 0, 0, 0), none, some (.iload_n 1, 120, 0, 0, 0, 0), some (.iaload, 121, 0, 0, 0, 0), some (.istore 5, 123, 0, 0, 0, 0), none, some (.aload 4, 125, 0, 0, 0, 0), none, some (.iload_n 1, 126, 0, 0, 0, 0), some (.iload_n 3, 127, 0, 0, 0, 0), some (.iastore, 128, 0, 0, 0, 0), some (.iload 5, 130, 0, 0, 0, 0), none, some (.ireturn, 131, 0, 0, 0, 0)]
set_option maxRecDepth 20000 in
noncomputable def tb_64 : List (Option RI) := [some (.aload_n 0, 1, 0, 0, 0, 0), some (.iload_n 1, 2, 0, 0, 0, 0), some (.invokevirtual 105, 5, 20, 60, 1, 0), none, none, some (.ifCond .eq 12, 8, 0, 17, 0, 0), none, none, some (.iload_n 2, 9, 0, 0, 0, 0), some (.bipush 69, 11, 0, 0, 0, 69), none, some (.invokestatic 69, 14, 0, 54, 2, 0), none, none, some (.ifCond .ne 9, 17, 0, 23, 0, 0), none, none, some (.aload_n 0, 18, 0, 0, 0, 0), some (.iconst 1, 19, 0, 0, 0, 1), some (.invokevirtual 73, 22, 20, 55, 1, 0), none, none, some (.ireturn, 23, 0, 0, 0, 0), some (.aload_n 0, 24, 0, 0, 0, 0), some (.getfield 10, 27, 0, 6, 0, 0), none, none, some (.getfield 86, 30, 0, 4, 1, 0), none, none, some (.iload_n 1, 31, 0, 0, 0, 0), some (.iaload, 32, 0, 0, 0, 0), some (.istore_n 3, 33, 0, 0, 0, 0), some (.aload_n 0, 34, 0, 0, 0, 0), some (.getfield 10, 37, 0, 6, 0, 0), none, none, some (.getfield 86, 40, 0, 4, 1, 0), none, none, some (.iload_n 1, 41, 0, 0, 0, 0), some (.iload_n 2, 42, 0, 0, 0, 0), some (.bipush 10, 44, 0, 0, 0, 10), none, some (.idiv, 45, 0, 0, 0, 0), some (.iastore, 46, 0, 0, 0, 0), some (.aload_n 0, 47, 0, 0, 0, 0), some (.getfield 10, 50, 0, 6, 0, 0), none, none, some (.getfield 89, 53, 0, 4, 2, 0), none, none, some (.iload_n 1, 54, 0, 0, 0, 0), some (.iload_n 2, 55, 0, 0, 0, 0), some (.bipush 10, 57, 0, 0, 0, 10), none, some (.irem, 58, 0, 0, 0, 0), some (.iastore, 59, 0, 0, 0, 0), some (.iload_n 3, 60, 0, 0, 0, 0), some (.ireturn, 61, 0, 0, 0, 0)]
set_option maxRecDepth 20000 in
noncomputable def tb_65 : List (Option RI) := [some (.iload_n 0, 1, 0, 0, 0, 0), some (.istore_n 2, 2, 0, 0, 0, 0), some (.iconst 0, 3, 0, 0, 0, 0), some (.istore_n 3, 4, 0, 0, 0, 0), some (.iload_n 3, 5, 0, 0, 0, 0), some (.bipush 7, 7, 0, 0, 0, 7), none, some (.if_icmp .ge 31, 10, 0, 38, 0, 0), none, none, some (.iload_n 2, 11, 0, 0, 0, 0), some (.bipush 6, 13, 0, 0, 0, 6), none, some (.invokestatic 69, 16, 0, 54, 2, 0), none, none, some (.ifCond .eq 22, 19, 0, 38, 0, 0), none, none, some (.iload_n 2, 20, 0, 0, 0, 0), some (.iload_n 1, 21, 0, 0, 0, 0), some (.if_icmp .ne 5, 24, 0, 26, 0, 0), none, none, some (.iconst 1, 25, 0, 0, 0, 1), some (.ireturn, 26, 0, 0, 0, 0), some (.getstatic 118, 29, 0, 1, 0, 0), none, none, some (.iload_n 2, 30, 0, 0, 0, 0), some (.iaload, 31, 0, 0, 0, 0), some (.istore_n 2, 32, 0, 0, 0, 0), some (.iinc 3 1, 35, 0, 0, 0, 1), none, none, some (.goto (-31), 38, 0, 4, 0, 0), none, none, some (.iconst 0, 39, 0, 0, 0, 0), some (.ireturn, 40, 0, 0, 0, 0)]
set_option maxRecDepth 20000 in
noncomputable def tb_66 : List (Option RI) := [some (.aload_n 0, 1, 0, 0, 0, 0), some (.iload_n 1, 2, 0, 0, 0, 0), some (.invokevirtual 105, 5, 20, 60, 1, 0), none, none, some (.ifCond .eq 12, 8, 0, 17, 0, 0), none, none, some (.iload_n 2, 9, 0, 0, 0, 0), some (.bipush 6, 11, 0, 0, 0, 6), none, some (.invokestatic 69, 14, 0, 54, 2, 0), none, none, some (.ifCond .ne 9, 17, 0, 23, 0, 0), none, none, some (.aload_n 0, 18, 0, 0, 0, 0), some (.iconst 1, 19, 0, 0, 0, 1), some (.invokevirtual 73, 22, 20, 55, 1, 0), none, none, some (.ireturn, 23, 0, 0, 0, 0), some (.aload_n 0, 24, 0, 0, 0, 0), some (.getfield 10, 27, 0, 6, 0, 0), none, none, some (.getfield 86, 30, 0, 4, 1, 0), none, none, some (.iload_n 1, 31, 0, 0, 0, 0), some (.iaload, 32, 0, 0, 0, 0), some (.iload_n 2, 33, 0, 0, 0, 0), some (.invokestatic 115, 36, 0, 65, 2, 0), none, none, some (.ifCond .ne 9, 39, 0, 45, 0, 0), none, none, some (.aload_n 0, 40, 0, 0, 0, 0), some (.iconst 5, 41, 0, 0, 0, 5), some (.invokevirtual 73, 44, 20, 55, 1, 0), none, none, some (.ireturn, 45, 0, 0, 0, 0), some (.aload_n 0, 46, 0, 0, 0, 0), some (.getfield 10, 49, 0, 6, 0, 0), none, none, some (.getfield 89, 52, 0, 4, 2, 0), none, none, some (.iload_n 1, 53, 0, 0, 0, 0), some (.iaload, 54, 0, 0, 0, 0), some (.ireturn, 55, 0, 0, 0, 0)]
set_option maxRecDepth 20000 in
noncomputable def tb_67 : List (Option RI) := [some (.iload_n 3, 1, 0, 0, 0, 0), some (.iconst 1, 2, 0, 0, 0, 1), some (.if_icmp .lt 9, 5, 0, 11, 0, 0), none, none, some (.iload_n 3, 6, 0, 0, 0, 0), some (.bipush 8, 8, 0, 0, 0, 8), none, some (.if_icmp .le 9, 11, 0, 17, 0, 0), none, none, some (.aload_n 0, 12, 0, 0, 0, 0), some (.iconst 1, 13, 0, 0, 0, 1), some (.invokevirtual 73, 16, 20, 55, 1, 0), none, none, some (.ireturn, 17, 0, 0, 0, 0), some (.aload_n 0, 18, 0, 0, 0, 0), some (.getfield 28, 21, 0, 6, 4, 0), none, none, some (.getfield 121, 24, 0, 0, 2, 0), none, none, some (.bipush 50, 26, 0, 0, 0, 50), none, some (.iload_n 3, 27, 0, 0, 0, 0), some (.isub, 28, 0, 0, 0, 0), some (.if_icmp .le 9, 31, 0, 37, 0, 0), none, none, some (.aload_n 0, 32, 0, 0, 0, 0), some (.iconst 4, 33, 0, 0, 0, 4), some (.invokevirtual 73, 36, 20, 55, 1, 0), none, none, some (.ireturn, 37, 0, 0, 0, 0), some (.iconst 0, 38, 0, 0, 0, 0), some (.istore 4, 40, 0, 0, 0, 0), none, some (.iload 4, 42, 0, 0, 0, 0), none, some (.iload_n 3, 43, 0, 0, 0, 0), some (.if_icmp .ge 49, 46, 0, 92, 0, 0), none, none, some (.aload_n 0, 47, 0, 0, 0, 0), some (.getfield 28, 50, 0, 6, 4, 0), none, none, some (.getfield 41, 53, 0, 0, 1, 0), none, none, some (.aload_n 0, 54, 0, 0, 0, 0), some (.getfield 28, 57, 0, 6, 4, 0), none, none, some (.getfield 121, 60, 0, 0, 2, 0), none, none, some (.lload_n 1, 61, 0, 0, 0, 0), some (.bipush 8, 63, 0, 0, 0, 8), none, some (.iload 4, 65, 0, 0, 0, 0), none, some (.imul, 66, 0, 0, 0, 0), some (.lushr, 67, 0, 0, 0, 0), some (.l2i, 68, 0, 0, 0, 0), some (.sipush 255, 71, 0, 0, 0, 255), none, none, some (.iand, 72, 0, 0, 0, 0), some (.iastore, 73, 0, 0, 0, 0), some (.aload_n 0, 74, 0, 0, 0, 0), some (.getfield 28, 77, 0, 6, 4, 0), none, none, some (.dup, 78, 0, 0, 0, 0), some (.getfield 121, 81, 0, 0, 2, 0), none, none, some (.iconst 1, 82, 0, 0, 0, 1), some (.iadd, 83, 0, 0, 0, 0), some (.putfield 121, 86, 0, 0, 2, 0), none, none, some (.iinc 4 1, 89, 0, 0, 0, 1), none, none, some (.goto (-49), 92, 0, 40, 0, 0), none, none, some (.aload_n 0, 93, 0, 0, 0, 0), some (.getfield 28, 96, 0, 6, 4, 0), none, none, some (.getfield 121, 99, 0, 0, 2, 0), none, none, some (.ireturn, 100, 0, 0, 0, 0)]
set_option maxRecDepth 20000 in
noncomputable def tb_68 : List (Option RI) := [some (.iload_n 1, 1, 0, 0, 0, 0), some (.iconst 1, 2, 0, 0, 0, 1), some (.invokestatic 69, 5, 0, 54, 2, 0), none, none, some (.ifCond .ne 9, 8, 0, 14, 0, 0), none, none, some (.aload_n 0, 9, 0, 0, 0, 0), some (.iconst 1, 10, 0, 0, 0, 1), some (.invokevirtual 73, 13, 20, 55, 1, 0), none, none, some (.ireturn, 14, 0, 0, 0, 0), some (.aload_n 0, 15, 0, 0, 0, 0), some (.getfield 48, 18, 0, 6, 7, 0), none, none, some (.aload_n 0, 19, 0, 0, 0, 0), some (.getfield 28, 22, 0, 6, 4, 0), none, none, some (.getfield 121, 25, 0, 0, 2, 0), none, none, some (.iload_n 1, 26, 0, 0, 0, 0), some (.ifCond .ne 8, 29, 0, 34, 0, 0), none, none, some (.ldc 124, 31, 0, 3, 0, 0), none, some (.goto 5, 34, 0, 36, 0, 0), none, none, some (.ldc 126, 36, 0, 4, 0, 0), none, some (.invokevirtual 128, 39, 20, 25, 2, 0), none, none, some (.istore_n 2, 40, 0, 0, 0, 0), some (.aload_n 0, 41, 0, 0, 0, 0), some (.getfield 28, 44, 0, 6, 4, 0), none, none, some (.iconst 0, 45, 0, 0, 0, 0), some (.putfield 121, 48, 0, 0, 2, 0), none, none, some (.iload_n 2, 49, 0, 0, 0, 0), some (.ifCond .lt 8, 52, 0, 57, 0, 0), none, none, some (.bipush (-10), 54, 0, 0, 0, -10), none, some (.iload_n 2, 55, 0, 0, 0, 0), some (.isub, 56, 0, 0, 0, 0), some (.ireturn, 57, 0, 0, 0, 0), some (.new 132, 60, 0, 1, 2, 0), none, none, some (.dup, 61, 0, 0, 0, 0), some (.aload_n 0, 62, 0, 0, 0, 0), some (.getfield 48, 65, 0, 6, 7, 0), none, none, some (.getfield 134, 68, 0, 2, 0, 0), none, none, some (.aload_n 0, 69, 0, 0, 0, 0), some (.getfield 48, 72, 0, 6, 7, 0), none, none, some (.getfield 137, 75, 0, 2, 1, 0), none, none, some (.invokespecial 140, 78, 10, 13, 2, 0), none, none, some (.astore_n 3, 79, 0, 0, 0, 0), some (.iload_n 1, 80, 0, 0, 0, 0), some (.ifCond .ne 14, 83, 0, 94, 0, 0), none, none, some (.aload_n 0, 84, 0, 0, 0, 0), some (.getfield 10, 87, 0, 6, 0, 0), none, none, some (.aload_n 3, 88, 0, 0, 0, 0), some (.putfield 143, 91, 0, 4, 11, 0), none, none, some (.goto 11, 94, 0, 102, 0, 0), none, none, some (.aload_n 0, 95, 0, 0, 0, 0), some (.getfield 10, 98, 0, 6, 0, 0), none, none, some (.aload_n 3, 99, 0, 0, 0, 0), some (.putfield 147, 102, 0, 4, 12, 0), none, none, some (.iconst 1, 103, 0, 0, 0, 1), some (.ireturn, 104, 0, 0, 0, 0)]
set_option maxRecDepth 20000 in
noncomputable def tb_69 : List (Option RI) := [some (.iload_n 1, 1, 0, 0, 0, 0), some (.iconst 1, 2, 0, 0, 0, 1), some (.invokestatic 69, 5, 0, 54, 2, 0), none, none, some (.ifCond .ne 9, 8, 0, 14, 0, 0), none, none, some (.aload_n 0, 9, 0, 0, 0, 0), some (.iconst 1, 10, 0, 0, 0, 1), some (.invokevirtual 73, 13, 20, 55, 1, 0), none, none, some (.ireturn, 14, 0, 0, 0, 0), some (.iload_n 1, 15, 0, 0, 0, 0), some (.ifCond .ne 17, 18, 0, 32, 0, 0), none, none, some (.aload_n 0, 19, 0, 0, 0, 0), some (.getfield 10, 22, 0, 6, 0, 0), none, none, some (.iload_n 2, 23, 0, 0, 0, 0), some (.iload_n 3, 24, 0, 0, 0, 0), some (.iload 4, 26, 0, 0, 0, 0), none, some (.invokevirtual 150, 29, 20, 32, 3, 0), none, none, some (.goto 14, 32, 0, 43, 0, 0), none, none, some (.aload_n 0, 33, 0, 0, 0, 0), some (.getfield 10, 36, 0, 6, 0, 0), none, none, some (.iload_n 2, 37, 0, 0, 0, 0), some (.iload_n 3, 38, 0, 0, 0, 0), some (.iload 4, 40, 0, 0, 0, 0), none, some (.invokevirtual 154, 43, 20, 33, 3, 0), none, none, some (.ireturn, 44, 0, 0, 0, 0)]
set_option maxRecDepth 20000 in
noncomputable def tb_70 : List (Option RI) := [some (.iload_n 1, 1, 0, 0, 0, 0), some (.iconst 1, 2, 0, 0, 0, 1), some (.if_icmp .lt 9, 5, 0, 11, 0, 0), none, none, some (.iload_n 1, 6, 0, 0, 0, 0), some (.bipush 60, 8, 0, 0, 0, 60), none, some (.if_icmp .le 9, 11, 0, 17, 0, 0), none, none, some (.aload_n 0, 12, 0, 0, 0, 0), some (.iconst 1, 13, 0, 0, 0, 1), some (.invokevirtual 73, 16, 20, 55, 1, 0), none, none, some (.ireturn, 17, 0, 0, 0, 0), some (.aload_n 0, 18, 0, 0, 0, 0), some (.getfield 10, 21, 0, 6, 0, 0), none, none, some (.getfield 157, 24, 0, 4, 9, 0), none, none, some (.sipush 9999, 27, 0, 0, 0, 9999), none, none, some (.iload_n 1, 28, 0, 0, 0, 0), some (.isub, 29, 0, 0, 0, 0), some (.if_icmp .le 9, 32, 0, 38, 0, 0), none, none, some (.aload_n 0, 33, 0, 0, 0, 0), some (.iconst 3, 34, 0, 0, 0, 3), some (.invokevirtual 73, 37, 20, 55, 1, 0), none, none, some (.ireturn, 38, 0, 0, 0, 0), some (.aload_n 0, 39, 0, 0, 0, 0), some (.getfield 10, 42, 0, 6, 0, 0), none, none, some (.iload_n 1, 43, 0, 0, 0, 0), some (.invokevirtual 160, 46, 20, 41, 1, 0), none, none, some (.aload_n 0, 47, 0, 0, 0, 0), some (.getfield 10, 50, 0, 6, 0, 0), none, none, some (.invokevirtual 164, 53, 20, 45, 0, 0), none, none, some (.ireturn, 54, 0, 0, 0, 0)]
set_option maxRecDepth 20000 in
noncomputable def tb_71 : List (Option RI) := [some (.aload_n 0, 1, 0, 0, 0, 0), some (.getfield 28, 4, 0, 6, 4, 0), none, none, some (.invokevirtual 174, 7, 20, 12, 0, 0), none, none, some (.istore_n 1, 8, 0, 0, 0, 0), some (.aload_n 0, 9, 0, 0, 0, 0), some (.getfield 10, 12, 0, 6, 0, 0), none, none, some (.getfield 83, 15, 0, 4, 10, 0), none, none, some (.ifCond .le 27, 18, 0, 42, 0, 0), none, none, some (.aload_n 0, 19, 0, 0, 0, 0), some (.getfield 10, 22, 0, 6, 0, 0), none, none, some (.getfield 95, 25, 0, 4, 4, 0), none, none, some (.iload_n 1, 26, 0, 0, 0, 0), some (.aload_n 0, 27, 0, 0, 0, 0), some (.getfield 10, 30, 0, 6, 0, 0), none, none, some (.getfield 83, 33, 0, 4, 10, 0), none, none, some (.irem, 34, 0, 0, 0, 0), some (.iload_n 1, 35, 0, 0, 0, 0), some (.bipush 8, 37, 0, 0, 0, 8), none, some (.idiv, 38, 0, 0, 0, 0), some (.bipush 10, 40, 0, 0, 0, 10), none, some (.irem, 41, 0, 0, 0, 0), some (.iastore, 42, 0, 0, 0, 0), some (.return_, 43, 0, 0, 0, 0)]
set_option maxRecDepth 20000 in
noncomputable def tb_72 : List (Option RI) := [some (.iload_n 1, 1, 0, 0, 0, 0), some (.iconst 1, 2, 0, 0, 0, 1), some (.if_icmp .lt 9, 5, 0, 11, 0, 0), none, none, some (.iload_n 1, 6, 0, 0, 0, 0), some (.bipush 40, 8, 0, 0, 0, 40), none, some (.if_icmp .le 9, 11, 0, 17, 0, 0), none, none, some (.aload_n 0, 12, 0, 0, 0, 0), some (.iconst 1, 13, 0, 0, 0, 1), some (.invokevirtual 73, 16, 20, 55, 1, 0), none, none, some (.ireturn, 17, 0, 0, 0, 0), some (.aload_n 0, 18, 0, 0, 0, 0), some (.getfield 10, 21, 0, 6, 0, 0), none, none, some (.getfield 157, 24, 0, 4, 9, 0), none, none, some (.sipush 9999, 27, 0, 0, 0, 9999), none, none, some (.iload_n 1, 28, 0, 0, 0, 0), some (.isub, 29, 0, 0, 0, 0), some (.if_icmp .le 9, 32, 0, 38, 0, 0), none, none, some (.aload_n 0, 33, 0, 0, 0, 0), some (.iconst 3, 34, 0, 0, 0, 3), some (.invokevirtual 73, 37, 20, 55, 1, 0), none, none, some (.ireturn, 38, 0, 0, 0, 0), some (.iconst 0, 39, 0, 0, 0, 0), some (.istore_n 2, 40, 0, 0, 0, 0), some (.iload_n 2, 41, 0, 0, 0, 0), some (.iload_n 1, 42, 0, 0, 0, 0), some (.if_icmp .ge 21, 45, 0, 63, 0, 0), none, none, some (.aload_n 0, 46, 0, 0, 0, 0), some (.invokevirtual 168, 49, 20, 71, 0, 0), none, none, some (.aload_n 0, 50, 0, 0, 0, 0), some (.getfield 10, 53, 0, 6, 0, 0), none, none, some (.invokevirtual 171, 56, 20, 40, 0, 0), none, none, some (.pop, 57, 0, 0, 0, 0), some (.iinc 2 1, 60, 0, 0, 0, 1), none, none, some (.goto (-20), 63, 0, 40, 0, 0), none, none, some (.aload_n 0, 64, 0, 0, 0, 0), some (.getfield 10, 67, 0, 6, 0, 0), none, none, some (.invokevirtual 164, 70, 20, 45, 0, 0), none, none, some (.ireturn, 71, 0, 0, 0, 0)]
set_option maxRecDepth 20000 in
noncomputable def tb_73 : List (Option RI) := [some (.aload_n 0, 1, 0, 0, 0, 0), some (.getfield 10, 4, 0, 6, 0, 0), none, none, some (.invokevirtual 177, 7, 20, 36, 0, 0), none, none, some (.aload_n 0, 8, 0, 0, 0, 0), some (.getfield 10, 11, 0, 6, 0, 0), none, none, some (.invokevirtual 180, 14, 20, 38, 0, 0), none, none, some (.ireturn, 15, 0, 0, 0, 0)]
set_option maxRecDepth 20000 in
noncomputable def tb_74 : List (Option RI) := [some (.aload_n 0, 1, 0, 0, 0, 0), some (.getfield 16, 4, 0, 6, 1, 0), none, none, some (.aload_n 0, 5, 0, 0, 0, 0), some (.getfield 10, 8, 0, 6, 0, 0), none, none, some (.invokevirtual 222, 11, 20, 31, 1, 0), none, none, some (.aload_n 0, 12, 0, 0, 0, 0), some (.getfield 16, 15, 0, 6, 1, 0), none, none, some (.areturn, 16, 0, 0, 0, 0)]
set_option maxRecDepth 20000 in
noncomputable def tb_75 : List (Option RI) := [some (.iload_n 1, 1, 0, 0, 0, 0), some (.bipush 60, 3, 0, 0, 0, 60), none, some (.invokestatic 69, 6, 0, 54, 2, 0), none, none, some (.ifCond .eq 19, 9, 0, 25, 0, 0), none, none, some (.aload_n 0, 10, 0, 0, 0, 0), some (.iload_n 2, 11, 0, 0, 0, 0), some (.invokevirtual 105, 14, 20, 60, 1, 0), none, none, some (.ifCond .eq 11, 17, 0, 25, 0, 0), none, none, some (.iload_n 3, 18, 0, 0, 0, 0), some (.iconst 2, 19, 0, 0, 0, 2), some (.invokestatic 69, 22, 0, 54, 2, 0), none, none, some (.ifCond .ne 9, 25, 0, 31, 0, 0), none, none, some (.aload_n 0, 26, 0, 0, 0, 0), some (.iconst 1, 27, 0, 0, 0, 1), some (.invokevirtual 73, 30, 20, 55, 1, 0), none, none, some (.ireturn, 31, 0, 0, 0, 0), some (.aload_n 0, 32, 0, 0, 0, 0), some (.invokevirtual 183, 35, 20, 74, 0, 0), none, none, some (.astore 4, 37, 0, 0, 0, 0), none, some (.aload 4, 39, 0, 0, 0, 0), none, some (.iload_n 1, 40, 0, 0, 0, 0), some (.invokevirtual 160, 43, 20, 41, 1, 0), none, none, some (.iload_n 3, 44, 0, 0, 0, 0), some (.lookupswitch 44 #[(0, 28), (1, 36)], 72, 0, 0, 0, 0), none, none, none, none, none, none, none, none, none, none, none, none, none, none, none, none, none, none, none, none, none, none, none, none, none, none, none, some (.aload 4, 74, 0, 0, 0, 0), none, some (.getfield 92, 77, 0, 4, 3, 0), none, none, some (.iload_n 2, 78, 0, 0, 0, 0), some (.iaload, 79, 0, 0, 0, 0), some (.ireturn, 80, 0, 0, 0, 0), some (.aload 4, 82, 0, 0, 0, 0), none, some (.getfield 98, 85, 0, 4, 5, 0), none, none, some (.iload_n 2, 86, 0, 0, 0, 0), some (.iaload, 87, 0, 0, 0, 0), some (.ireturn, 88, 0, 0, 0, 0), some (.aload 4, 90, 0, 0, 0, 0), none, some (.getfield 101, 93, 0, 4, 6, 0), none, none, some (.iload_n 2, 94, 0, 0, 0, 0), some (.baload, 95, 0, 0, 0, 0), some (.ifCond .eq 7, 98, 0, 102, 0, 0), none, none, some (.iconst 1, 99, 0, 0, 0, 1), some (.goto 4, 102, 0, 103, 0, 0), none, none, some (.iconst 0, 103, 0, 0, 0, 0), some (.ireturn, 104, 0, 0, 0, 0)]
set_option maxRecDepth 20000 in
noncomputable def tb_76 : List (Option RI) := [some (.aload_n 0, 1, 0, 0, 0, 0), some (.iload_n 1, 2, 0, 0, 0, 0), some (.invokevirtual 105, 5, 20, 60, 1, 0), none, none, some (.ifCond .ne 9, 8, 0, 14, 0, 0), none, none, some (.aload_n 0, 9, 0, 0, 0, 0), some (.iconst 1, 10, 0, 0, 0, 1), some (.invokevirtual 73, 13, 20, 55, 1, 0), none, none, some (.ireturn, 14, 0, 0, 0, 0), some (.aload_n 0, 15, 0, 0, 0, 0), some (.invokevirtual 183, 18, 20, 74, 0, 0), none, none, some (.iload_n 1, 19, 0, 0, 0, 0), some (.bipush 60, 21, 0, 0, 0, 60), none, some (.invokevirtual 187, 24, 20, 42, 2, 0), none, none, some (.istore_n 2, 25, 0, 0, 0, 0), some (.iload_n 2, 26, 0, 0, 0, 0), some (.ifCond .ne 11, 29, 0, 37, 0, 0), none, none, some (.aload_n 0, 30, 0, 0, 0, 0), some (.iconst 2, 31, 0, 0, 0, 2), some (.invokevirtual 73, 34, 20, 55, 1, 0), none, none, some (.goto 4, 37, 0, 38, 0, 0), none, none, some (.iload_n 2, 38, 0, 0, 0, 0), some (.ireturn, 39, 0, 0, 0, 0)]
set_option maxRecDepth 20000 in
noncomputable def tb_77 : List (Option RI) := [some (.aload_n 0, 1, 0, 0, 0, 0), some (.invokevirtual 183, 4, 20, 74, 0, 0), none, none, some (.astore_n 1, 5, 0, 0, 0, 0), some (.aload_n 1, 6, 0, 0, 0, 0), some (.bipush 60, 8, 0, 0, 0, 60), none, some (.invokevirtual 160, 11, 20, 41, 1, 0), none, none, some (.iconst 0, 12, 0, 0, 0, 0), some (.istore_n 2, 13, 0, 0, 0, 0), some (.iconst 0, 14, 0, 0, 0, 0), some (.istore_n 3, 15, 0, 0, 0, 0), some (.iload_n 3, 16, 0, 0, 0, 0), some (.aload_n 0, 17, 0, 0, 0, 0), some (.getfield 10, 20, 0, 6, 0, 0), none, none, some (.getfield 83, 23, 0, 4, 10, 0), none, none, some (.if_icmp .ge 33, 26, 0, 56, 0, 0), none, none, some (.aload_n 1, 27, 0, 0, 0, 0), some (.getfield 98, 30, 0, 4, 5, 0), none, none, some (.iload_n 3, 31, 0, 0, 0, 0), some (.iaload, 32, 0, 0, 0, 0), some (.aload_n 0, 33, 0, 0, 0, 0), some (.getfield 10, 36, 0, 6, 0, 0), none, none, some (.getfield 98, 39, 0, 4, 5, 0), none, none, some (.iload_n 3, 40, 0, 0, 0, 0), some (.iaload, 41, 0, 0, 0, 0), some (.if_icmp .gt 9, 44, 0, 50, 0, 0), none, none, some (.iload_n 2, 45, 0, 0, 0, 0), some (.iconst 1, 46, 0, 0, 0, 1), some (.iload_n 3, 47, 0, 0, 0, 0), some (.ishl, 48, 0, 0, 0, 0), some (.ior, 49, 0, 0, 0, 0), some (.istore_n 2, 50, 0, 0, 0, 0), some (.iinc 3 1, 53, 0, 0, 0, 1), none, none, some (.goto (-38), 56, 0, 15, 0, 0), none, none, some (.iload_n 2, 57, 0, 0, 0, 0), some (.ireturn, 58, 0, 0, 0, 0)]
set_option maxRecDepth 20000 in
noncomputable def tb_78 : List (Option RI) := [some (.aload_n 0, 1, 0, 0, 0, 0), some (.iload_n 1, 2, 0, 0, 0, 0), some (.invokevirtual 105, 5, 20, 60, 1, 0), none, none, some (.ifCond .eq 14, 8, 0, 19, 0, 0), none, none, some (.iload_n 2, 9, 0, 0, 0, 0), some (.iconst 1, 10, 0, 0, 0, 1), some (.if_icmp .lt 9, 13, 0, 19, 0, 0), none, none, some (.iload_n 2, 14, 0, 0, 0, 0), some (.bipush 60, 16, 0, 0, 0, 60), none, some (.if_icmp .le 9, 19, 0, 25, 0, 0), none, none, some (.aload_n 0, 20, 0, 0, 0, 0), some (.iconst 1, 21, 0, 0, 0, 1), some (.invokevirtual 73, 24, 20, 55, 1, 0), none, none, some (.ireturn, 25, 0, 0, 0, 0), some (.iconst 0, 26, 0, 0, 0, 0), some (.istore_n 3, 27, 0, 0, 0, 0), some (.iload_n 3, 28, 0, 0, 0, 0), some (.bipush 10, 30, 0, 0, 0, 10), none, some (.if_icmp .ge 24, 33, 0, 54, 0, 0), none, none, some (.aload_n 0, 34, 0, 0, 0, 0), some (.invokevirtual 183, 37, 20, 74, 0, 0), none, none, some (.iload_n 1, 38, 0, 0, 0, 0), some (.iload_n 2, 39, 0, 0, 0, 0), some (.iload_n 3, 40, 0, 0, 0, 0), some (.invokevirtual 191, 43, 20, 43, 3, 0), none, none, some (.ifCond .eq 5, 46, 0, 48, 0, 0), none, none, some (.iload_n 3, 47, 0, 0, 0, 0), some (.ireturn, 48, 0, 0, 0, 0), some (.iinc 3 1, 51, 0, 0, 0, 1), none, none, some (.goto (-24), 54, 0, 27, 0, 0), none, none, some (.aload_n 0, 55, 0, 0, 0, 0), some (.iconst 2, 56, 0, 0, 0, 2), some (.invokevirtual 73, 59, 20, 55, 1, 0), none, none, some (.ireturn, 60, 0, 0, 0, 0)]
set_option maxRecDepth 20000 in
noncomputable def tb_79 : List (Option RI) := [some (.iconst 0, 1, 0, 0, 0, 0), some (.istore_n 3, 2, 0, 0, 0, 0), some (.iload_n 3, 3, 0, 0, 0, 0), some (.aload_n 0, 4, 0, 0, 0, 0), some (.getfield 10, 7, 0, 6, 0, 0), none, none, some (.getfield 83, 10, 0, 4, 10, 0), none, none, some (.if_icmp .ge 37, 13, 0, 47, 0, 0), none, none, some (.iload_n 2, 14, 0, 0, 0, 0), some (.iload_n 3, 15, 0, 0, 0, 0), some (.invokestatic 203, 18, 0, 52, 2, 0), none, none, some (.ifCond .eq 23, 21, 0, 41, 0, 0), none, none, some (.aload_n 1, 22, 0, 0, 0, 0), some (.getfield 98, 25, 0, 4, 5, 0), none, none, some (.iload_n 3, 26, 0, 0, 0, 0), some (.iaload, 27, 0, 0, 0, 0), some (.aload_n 0, 28, 0, 0, 0, 0), some (.getfield 10, 31, 0, 6, 0, 0), none, none, some (.getfield 98, 34, 0, 4, 5, 0), none, none, some (.iload_n 3, 35, 0, 0, 0, 0), some (.iaload, 36, 0, 0, 0, 0), some (.if_icmp .gt 5, 39, 0, 41, 0, 0), none, none, some (.iconst 0, 40, 0, 0, 0, 0), some (.ireturn, 41, 0, 0, 0, 0), some (.iinc 3 1, 44, 0, 0, 0, 1), none, none, some (.goto (-42), 47, 0, 2, 0, 0), none, none, some (.iconst 1, 48, 0, 0, 0, 1), some (.ireturn, 49, 0, 0, 0, 0)]
set_option maxRecDepth 20000 in
noncomputable def tb_80 : List (Option RI) := [some (.iload_n 1, 1, 0, 0, 0, 0), some (.aload_n 0, 2, 0, 0, 0, 0), some (.getfield 10, 5, 0, 6, 0, 0), none, none, some (.getfield 83, 8, 0, 4, 10, 0), none, none, some (.iushr, 9, 0, 0, 0, 0), some (.ifCond .ne 14, 12, 0, 23, 0, 0), none, none, some (.iload_n 2, 13, 0, 0, 0, 0), some (.iconst 1, 14, 0, 0, 0, 1), some (.if_icmp .lt 9, 17, 0, 23, 0, 0), none, none, some (.iload_n 2, 18, 0, 0, 0, 0), some (.bipush 60, 20, 0, 0, 0, 60), none, some (.if_icmp .le 9, 23, 0, 29, 0, 0), none, none, some (.aload_n 0, 24, 0, 0, 0, 0), some (.iconst 1, 25, 0, 0, 0, 1), some (.invokevirtual 73, 28, 20, 55, 1, 0), none, none, some (.ireturn, 29, 0, 0, 0, 0), some (.iconst 0, 30, 0, 0, 0, 0), some (.istore_n 3, 31, 0, 0, 0, 0), some (.iload_n 3, 32, 0, 0, 0, 0), some (.bipush 10, 34, 0, 0, 0, 10), none, some (.if_icmp .ge 40, 37, 0, 74, 0, 0), none, none, some (.aload_n 0, 38, 0, 0, 0, 0), some (.invokevirtual 183, 41, 20, 74, 0, 0), none, none, some (.astore 4, 43, 0, 0, 0, 0), none, some (.aload 4, 45, 0, 0, 0, 0), none, some (.iload_n 1, 46, 0, 0, 0, 0), some (.iload_n 3, 47, 0, 0, 0, 0), some (.invokevirtual 195, 50, 20, 44, 2, 0), none, none, some (.aload 4, 52, 0, 0, 0, 0), none, some (.iload_n 2, 53, 0, 0, 0, 0), some (.invokevirtual 160, 56, 20, 41, 1, 0), none, none, some (.aload_n 0, 57, 0, 0, 0, 0), some (.aload 4, 59, 0, 0, 0, 0), none, some (.iload_n 1, 60, 0, 0, 0, 0), some (.invokevirtual 199, 63, 20, 79, 2, 0), none, none, some (.ifCond .eq 5, 66, 0, 68, 0, 0), none, none, some (.iload_n 3, 67, 0, 0, 0, 0), some (.ireturn, 68, 0, 0, 0, 0), some (.iinc 3 1, 71, 0, 0, 0, 1), none, none, some (.goto (-40), 74, 0, 31, 0, 0), none, none, some (.aload_n 0, 75, 0, 0, 0, 0), some (.iconst 2, 76, 0, 0, 0, 2), some (.invokevirtual 73, 79, 20, 55, 1, 0), none, none, some (.ireturn, 80, 0, 0, 0, 0)]
set_option maxRecDepth 20000 in
noncomputable def tb_81 : List (Option RI) := [some (.aload_n 0, 1, 0, 0, 0, 0), some (.invokevirtual 183, 4, 20, 74, 0, 0), none, none, some (.astore_n 3, 5, 0, 0, 0, 0), some (.aload_n 3, 6, 0, 0, 0, 0), some (.iload_n 2, 7, 0, 0, 0, 0), some (.putfield 80, 10, 0, 4, 8, 0), none, none, some (.iconst 0, 11, 0, 0, 0, 0), some (.istore 4, 13, 0, 0, 0, 0), none, some (.iload 4, 15, 0, 0, 0, 0), none, some (.aload_n 1, 16, 0, 0, 0, 0), some (.getfield 213, 19, 0, 3, 1, 0), none, none, some (.if_icmp .ge 25, 22, 0, 44, 0, 0), none, none, some (.aload_n 1, 23, 0, 0, 0, 0), some (.iload 4, 25, 0, 0, 0, 0), none, some (.aload_n 3, 26, 0, 0, 0, 0), some (.invokevirtual 171, 29, 20, 40, 0, 0), none, none, some (.invokevirtual 216, 32, 20, 29, 2, 0), none, none, some (.ifCond .ne 6, 35, 0, 38, 0, 0), none, none, some (.iload 4, 37, 0, 0, 0, 0), none, some (.ireturn, 38, 0, 0, 0, 0), some (.iinc 4 1, 41, 0, 0, 0, 1), none, none, some (.goto (-28), 44, 0, 13, 0, 0), none, none, some (.aload_n 1, 45, 0, 0, 0, 0), some (.getfield 213, 48, 0, 3, 1, 0), none, none, some (.ireturn, 49, 0, 0, 0, 0)]
set_option maxRecDepth 20000 in
noncomputable def tb_82 : List (Option RI) := [some (.iload_n 1, 1, 0, 0, 0, 0), some (.iconst 3, 2, 0, 0, 0, 3), some (.invokestatic 69, 5, 0, 54, 2, 0), none, none, some (.ifCond .eq 11, 8, 0, 16, 0, 0), none, none, some (.iload_n 2, 9, 0, 0, 0, 0), some (.iconst 1, 10, 0, 0, 0, 1), some (.invokestatic 69, 13, 0, 54, 2, 0), none, none, some (.ifCond .ne 9, 16, 0, 22, 0, 0), none, none, some (.aload_n 0, 17, 0, 0, 0, 0), some (.iconst 1, 18, 0, 0, 0, 1), some (.invokevirtual 73, 21, 20, 55, 1, 0), none, none, some (.ireturn, 22, 0, 0, 0, 0), some (.aload_n 0, 23, 0, 0, 0, 0), some (.getfield 62, 26, 0, 6, 9, 0), none, none, some (.iload_n 1, 27, 0, 0, 0, 0), some (.aaload, 28, 0, 0, 0, 0), some (.astore_n 3, 29, 0, 0, 0, 0), some (.aload_n 3, 30, 0, 0, 0, 0), some (.getfield 206, 33, 0, 3, 0, 0), none, none, some (.ifCond .ne 9, 36, 0, 42, 0, 0), none, none, some (.aload_n 0, 37, 0, 0, 0, 0), some (.iconst 2, 38, 0, 0, 0, 2), some (.invokevirtual 73, 41, 20, 55, 1, 0), none, none, some (.ireturn, 42, 0, 0, 0, 0), some (.iload_n 2, 43, 0, 0, 0, 0), some (.iconst 1, 44, 0, 0, 0, 1), some (.if_icmp .ne 16, 47, 0, 60, 0, 0), none, none, some (.aload_n 0, 48, 0, 0, 0, 0), some (.aload_n 3, 49, 0, 0, 0, 0), some (.aload_n 0, 50, 0, 0, 0, 0), some (.getfield 10, 53, 0, 6, 0, 0), none, none, some (.getfield 80, 56, 0, 4, 8, 0), none, none, some (.invokevirtual 209, 59, 20, 81, 2, 0), none, none, some (.ireturn, 60, 0, 0, 0, 0), some (.iconst 0, 61, 0, 0, 0, 0), some (.istore 4, 63, 0, 0, 0, 0), none, some (.iconst 1, 64, 0, 0, 0, 1), some (.istore 5, 66, 0, 0, 0, 0), none, some (.iload 5, 68, 0, 0, 0, 0), none, some (.iconst 4, 69, 0, 0, 0, 4), some (.if_icmp .gt 32, 72, 0, 101, 0, 0), none, none, some (.aload_n 0, 73, 0, 0, 0, 0), some (.aload_n 3, 74, 0, 0, 0, 0), some (.iload 5, 76, 0, 0, 0, 0), none, some (.invokevirtual 209, 79, 20, 81, 2, 0), none, none, some (.aload_n 3, 80, 0, 0, 0, 0), some (.getfield 213, 83, 0, 3, 1, 0), none, none, some (.if_icmp .ne 12, 86, 0, 95, 0, 0), none, none, some (.iload 4, 88, 0, 0, 0, 0), none, some (.iconst 1, 89, 0, 0, 0, 1), some (.iload 5, 91, 0, 0, 0, 0), none, some (.ishl, 92, 0, 0, 0, 0), some (.ior, 93, 0, 0, 0, 0), some (.istore 4, 95, 0, 0, 0, 0), none, some (.iinc 5 1, 98, 0, 0, 0, 1), none, none, some (.goto (-32), 101, 0, 66, 0, 0), none, none, some (.iload 4, 103, 0, 0, 0, 0), none, some (.ireturn, 104, 0, 0, 0, 0)]
set_option maxRecDepth 20000 in
noncomputable def tb_83 : List (Option RI) := [some (.aload_n 0, 1, 0, 0, 0, 0), some (.iload_n 1, 2, 0, 0, 0, 0), some (.invokevirtual 105, 5, 20, 60, 1, 0), none, none, some (.ifCond .ne 9, 8, 0, 14, 0, 0), none, none, some (.aload_n 0, 9, 0, 0, 0, 0), some (.iconst 1, 10, 0, 0, 0, 1), some (.invokevirtual 73, 13, 20, 55, 1, 0), none, none, some (.ireturn, 14, 0, 0, 0, 0), some (.aload_n 0, 15, 0, 0, 0, 0), some (.getfield 10, 18, 0, 6, 0, 0), none, none, some (.getfield 101, 21, 0, 4, 6, 0), none, none, some (.iload_n 1, 22, 0, 0, 0, 0), some (.baload, 23, 0, 0, 0, 0), some (.ifCond .eq 9, 26, 0, 32, 0, 0), none, none, some (.aload_n 0, 27, 0, 0, 0, 0), some (.iconst 3, 28, 0, 0, 0, 3), some (.invokevirtual 73, 31, 20, 55, 1, 0), none, none, some (.ireturn, 32, 0, 0, 0, 0), some (.aload_n 0, 33, 0, 0, 0, 0), some (.getfield 10, 36, 0, 6, 0, 0), none, none, some (.invokevirtual 177, 39, 20, 36, 0, 0), none, none, some (.aload_n 0, 40, 0, 0, 0, 0), some (.getfield 10, 43, 0, 6, 0, 0), none, none, some (.iload_n 1, 44, 0, 0, 0, 0), some (.invokevirtual 219, 47, 20, 37, 1, 0), none, none, some (.ireturn, 48, 0, 0, 0, 0)]
set_option maxRecDepth 20000 in
noncomputable def tb_84 : List (Option RI) := [some (.aload_n 0, 1, 0, 0, 0, 0), some (.iload_n 1, 2, 0, 0, 0, 0), some (.invokevirtual 105, 5, 20, 60, 1, 0), none, none, some (.ifCond .eq 12, 8, 0, 17, 0, 0), none, none, some (.iload_n 2, 9, 0, 0, 0, 0), some (.bipush 60, 11, 0, 0, 0, 60), none, some (.invokestatic 69, 14, 0, 54, 2, 0), none, none, some (.ifCond .ne 9, 17, 0, 23, 0, 0), none, none, some (.aload_n 0, 18, 0, 0, 0, 0), some (.iconst 1, 19, 0, 0, 0, 1), some (.invokevirtual 73, 22, 20, 55, 1, 0), none, none, some (.ireturn, 23, 0, 0, 0, 0), some (.aload_n 0, 24, 0, 0, 0, 0), some (.invokevirtual 183, 27, 20, 74, 0, 0), none, none, some (.astore_n 3, 28, 0, 0, 0, 0), some (.aload_n 3, 29, 0, 0, 0, 0), some (.iload_n 2, 30, 0, 0, 0, 0), some (.invokevirtual 160, 33, 20, 41, 1, 0), none, none, some (.aload_n 0, 34, 0, 0, 0, 0), some (.getfield 19, 37, 0, 6, 2, 0), none, none, some (.aload_n 0, 38, 0, 0, 0, 0), some (.getfield 10, 41, 0, 6, 0, 0), none, none, some (.invokevirtual 222, 44, 20, 31, 1, 0), none, none, some (.aload_n 0, 45, 0, 0, 0, 0), some (.getfield 19, 48, 0, 6, 2, 0), none, none, some (.getfield 95, 51, 0, 4, 4, 0), none, none, some (.iload_n 1, 52, 0, 0, 0, 0), some (.iconst 0, 53, 0, 0, 0, 0), some (.iastore, 54, 0, 0, 0, 0), some (.aload_n 0, 55, 0, 0, 0, 0), some (.getfield 19, 58, 0, 6, 2, 0), none, none, some (.iload_n 2, 59, 0, 0, 0, 0), some (.invokevirtual 160, 62, 20, 41, 1, 0), none, none, some (.iconst 0, 63, 0, 0, 0, 0), some (.istore 4, 65, 0, 0, 0, 0), none, some (.iconst 0, 66, 0, 0, 0, 0), some (.istore 5, 68, 0, 0, 0, 0), none, some (.iload 5, 70, 0, 0, 0, 0), none, some (.aload_n 0, 71, 0, 0, 0, 0), some (.getfield 10, 74, 0, 6, 0, 0), none, none, some (.getfield 83, 77, 0, 4, 10, 0), none, none, some (.if_icmp .ge 44, 80, 0, 121, 0, 0), none, none, some (.iload 5, 82, 0, 0, 0, 0), none, some (.iload_n 1, 83, 0, 0, 0, 0), some (.if_icmp .eq 32, 86, 0, 115, 0, 0), none, none, some (.aload_n 0, 87, 0, 0, 0, 0), some (.getfield 19, 90, 0, 6, 2, 0), none, none, some (.getfield 98, 93, 0, 4, 5, 0), none, none, some (.iload 5, 95, 0, 0, 0, 0), none, some (.iaload, 96, 0, 0, 0, 0), some (.aload_n 3, 97, 0, 0, 0, 0), some (.getfield 98, 100, 0, 4, 5, 0), none, none, some (.iload 5, 102, 0, 0, 0, 0), none, some (.iaload, 103, 0, 0, 0, 0), some (.if_icmp .le 12, 106, 0, 115, 0, 0), none, none, some (.iload 4, 108, 0, 0, 0, 0), none, some (.iconst 1, 109, 0, 0, 0, 1), some (.iload 5, 111, 0, 0, 0, 0), none, some (.ishl, 112, 0, 0, 0, 0), some (.ior, 113, 0, 0, 0, 0), some (.istore 4, 115, 0, 0, 0, 0), none, some (.iinc 5 1, 118, 0, 0, 0, 1), none, none, some (.goto (-50), 121, 0, 68, 0, 0), none, none, some (.iload 4, 123, 0, 0, 0, 0), none, some (.ireturn, 124, 0, 0, 0, 0)]
set_option maxRecDepth 20000 in
noncomputable def tb_85 : List (Option RI) := [some (.aload_n 0, 1, 0, 0, 0, 0), some (.iload_n 1, 2, 0, 0, 0, 0), some (.invokevirtual 105, 5, 20, 60, 1, 0), none, none, some (.ifCond .eq 12, 8, 0, 17, 0, 0), none, none, some (.iload_n 2, 9, 0, 0, 0, 0), some (.bipush 60, 11, 0, 0, 0, 60), none, some (.invokestatic 69, 14, 0, 54, 2, 0), none, none, some (.ifCond .ne 9, 17, 0, 23, 0, 0), none, none, some (.aload_n 0, 18, 0, 0, 0, 0), some (.iconst 1, 19, 0, 0, 0, 1), some (.invokevirtual 73, 22, 20, 55, 1, 0), none, none, some (.ireturn, 23, 0, 0, 0, 0), some (.aload_n 0, 24, 0, 0, 0, 0), some (.invokevirtual 183, 27, 20, 74, 0, 0), none, none, some (.astore_n 3, 28, 0, 0, 0, 0), some (.iconst 0, 29, 0, 0, 0, 0), some (.istore 4, 31, 0, 0, 0, 0), none, some (.iconst 0, 32, 0, 0, 0, 0), some (.istore 5, 34, 0, 0, 0, 0), none, some (.iload 5, 36, 0, 0, 0, 0), none, some (.iload_n 2, 37, 0, 0, 0, 0), some (.if_icmp .ge 28, 40, 0, 65, 0, 0), none, none, some (.aload_n 3, 41, 0, 0, 0, 0), some (.invokevirtual 171, 44, 20, 40, 0, 0), none, none, some (.pop, 45, 0, 0, 0, 0), some (.aload_n 3, 46, 0, 0, 0, 0), some (.getfield 92, 49, 0, 4, 3, 0), none, none, some (.iload_n 1, 50, 0, 0, 0, 0), some (.iaload, 51, 0, 0, 0, 0), some (.bipush 50, 53, 0, 0, 0, 50), none, some (.if_icmp .lt 6, 56, 0, 59, 0, 0), none, none, some (.iinc 4 1, 59, 0, 0, 0, 1), none, none, some (.iinc 5 1, 62, 0, 0, 0, 1), none, none, some (.goto (-28), 65, 0, 34, 0, 0), none, none, some (.iload 4, 67, 0, 0, 0, 0), none, some (.ireturn, 68, 0, 0, 0, 0)]
set_option maxRecDepth 20000 in
noncomputable def tb_86 : List (Option RI) := [some (.iload_n 1, 1, 0, 0, 0, 0), some (.iconst 1, 2, 0, 0, 0, 1), some (.if_icmp .lt 18, 5, 0, 20, 0, 0), none, none, some (.iload_n 1, 6, 0, 0, 0, 0), some (.bipush 99, 8, 0, 0, 0, 99), none, some (.if_icmp .gt 12, 11, 0, 20, 0, 0), none, none, some (.iload_n 2, 12, 0, 0, 0, 0), some (.bipush 60, 14, 0, 0, 0, 60), none, some (.invokestatic 69, 17, 0, 54, 2, 0), none, none, some (.ifCond .ne 9, 20, 0, 26, 0, 0), none, none, some (.aload_n 0, 21, 0, 0, 0, 0), some (.iconst 1, 22, 0, 0, 0, 1), some (.invokevirtual 73, 25, 20, 55, 1, 0), none, none, some (.ireturn, 26, 0, 0, 0, 0), some (.iconst 1, 27, 0, 0, 0, 1), some (.istore_n 3, 28, 0, 0, 0, 0), some (.iload_n 3, 29, 0, 0, 0, 0), some (.iconst 4, 30, 0, 0, 0, 4), some (.if_icmp .gt 38, 33, 0, 68, 0, 0), none, none, some (.aload_n 0, 34, 0, 0, 0, 0), some (.invokevirtual 183, 37, 20, 74, 0, 0), none, none, some (.astore 4, 39, 0, 0, 0, 0), none, some (.aload 4, 41, 0, 0, 0, 0), none, some (.iload_n 3, 42, 0, 0, 0, 0), some (.putfield 80, 45, 0, 4, 8, 0), none, none, some (.aload 4, 47, 0, 0, 0, 0), none, some (.iload_n 2, 48, 0, 0, 0, 0), some (.invokevirtual 160, 51, 20, 41, 1, 0), none, none, some (.aload 4, 53, 0, 0, 0, 0), none, some (.invokevirtual 226, 56, 20, 46, 0, 0), none, none, some (.iload_n 1, 57, 0, 0, 0, 0), some (.if_icmp .ge 5, 60, 0, 62, 0, 0), none, none, some (.iload_n 3, 61, 0, 0, 0, 0), some (.ireturn, 62, 0, 0, 0, 0), some (.iinc 3 1, 65, 0, 0, 0, 1), none, none, some (.goto (-37), 68, 0, 28, 0, 0), none, none, some (.aload_n 0, 69, 0, 0, 0, 0), some (.iconst 2, 70, 0, 0, 0, 2), some (.invokevirtual 73, 73, 20, 55, 1, 0), none, none, some (.ireturn, 74, 0, 0, 0, 0)]
set_option maxRecDepth 20000 in
noncomputable def tb_87 : List (Option RI) := [some (.iload_n 1, 1, 0, 0, 0, 0), some (.bipush 60, 3, 0, 0, 0, 60), none, some (.invokestatic 69, 6, 0, 54, 2, 0), none, none, some (.ifCond .ne 9, 9, 0, 15, 0, 0), none, none, some (.aload_n 0, 10, 0, 0, 0, 0), some (.iconst 1, 11, 0, 0, 0, 1), some (.invokevirtual 73, 14, 20, 55, 1, 0), none, none, some (.ireturn, 15, 0, 0, 0, 0), some (.aload_n 0, 16, 0, 0, 0, 0), some (.invokevirtual 183, 19, 20, 74, 0, 0), none, none, some (.astore_n 2, 20, 0, 0, 0, 0), some (.aload_n 2, 21, 0, 0, 0, 0), some (.iload_n 1, 22, 0, 0, 0, 0), some (.invokevirtual 160, 25, 20, 41, 1, 0), none, none, some (.aload_n 2, 26, 0, 0, 0, 0), some (.invokevirtual 229, 29, 20, 47, 0, 0), none, none, some (.aload_n 0, 30, 0, 0, 0, 0), some (.getfield 10, 33, 0, 6, 0, 0), none, none, some (.invokevirtual 229, 36, 20, 47, 0, 0), none, none, some (.isub, 37, 0, 0, 0, 0), some (.ireturn, 38, 0, 0, 0, 0)]
set_option maxRecDepth 20000 in
noncomputable def tb_88 : List (Option RI) := [some (.iload_n 1, 1, 0, 0, 0, 0), some (.istore_n 2, 2, 0, 0, 0, 0), some (.iload_n 2, 3, 0, 0, 0, 0), some (.iconst 1, 4, 0, 0, 0, 1), some (.if_icmp .le 23, 7, 0, 27, 0, 0), none, none, some (.iload_n 0, 8, 0, 0, 0, 0), some (.iload_n 2, 9, 0, 0, 0, 0), some (.irem, 10, 0, 0, 0, 0), some (.ifCond .ne 11, 13, 0, 21, 0, 0), none, none, some (.iload_n 1, 14, 0, 0, 0, 0), some (.iload_n 2, 15, 0, 0, 0, 0), some (.irem, 16, 0, 0, 0, 0), some (.ifCond .ne 5, 19, 0, 21, 0, 0), none, none, some (.iload_n 2, 20, 0, 0, 0, 0), some (.ireturn, 21, 0, 0, 0, 0), some (.iinc 2 (-1), 24, 0, 0, 0, -1), none, none, some (.goto (-22), 27, 0, 2, 0, 0), none, none, some (.iconst 1, 28, 0, 0, 0, 1), some (.ireturn, 29, 0, 0, 0, 0)]
set_option maxRecDepth 20000 in
noncomputable def tb_89 : List (Option RI) := [some (.aload_n 0, 1, 0, 0, 0, 0), some (.iload_n 1, 2, 0, 0, 0, 0), some (.invokevirtual 105, 5, 20, 60, 1, 0), none, none, some (.ifCond .eq 20, 8, 0, 25, 0, 0), none, none, some (.iload_n 2, 9, 0, 0, 0, 0), some (.bipush 60, 11, 0, 0, 0, 60), none, some (.invokestatic 69, 14, 0, 54, 2, 0), none, none, some (.ifCond .eq 11, 17, 0, 25, 0, 0), none, none, some (.iload_n 3, 18, 0, 0, 0, 0), some (.iconst 1, 19, 0, 0, 0, 1), some (.invokestatic 69, 22, 0, 54, 2, 0), none, none, some (.ifCond .ne 9, 25, 0, 31, 0, 0), none, none, some (.aload_n 0, 26, 0, 0, 0, 0), some (.iconst 1, 27, 0, 0, 0, 1), some (.invokevirtual 73, 30, 20, 55, 1, 0), none, none, some (.ireturn, 31, 0, 0, 0, 0), some (.iconst 0, 32, 0, 0, 0, 0), some (.istore 4, 34, 0, 0, 0, 0), none, some (.iconst 0, 35, 0, 0, 0, 0), some (.istore 5, 37, 0, 0, 0, 0), none, some (.iload 5, 39, 0, 0, 0, 0), none, some (.bipush 10, 41, 0, 0, 0, 10), none, some (.if_icmp .ge 26, 44, 0, 67, 0, 0), none, none, some (.aload_n 0, 45, 0, 0, 0, 0), some (.invokevirtual 183, 48, 20, 74, 0, 0), none, none, some (.iload_n 1, 49, 0, 0, 0, 0), some (.iload_n 2, 50, 0, 0, 0, 0), some (.iload 5, 52, 0, 0, 0, 0), none, some (.invokevirtual 191, 55, 20, 43, 3, 0), none, none, some (.ifCond .eq 6, 58, 0, 61, 0, 0), none, none, some (.iinc 4 1, 61, 0, 0, 0, 1), none, none, some (.iinc 5 1, 64, 0, 0, 0, 1), none, none, some (.goto (-27), 67, 0, 37, 0, 0), none, none, some (.iload 4, 69, 0, 0, 0, 0), none, some (.bipush 10, 71, 0, 0, 0, 10), none, some (.invokestatic 232, 74, 0, 88, 2, 0), none, none, some (.istore 5, 76, 0, 0, 0, 0), none, some (.iload_n 3, 77, 0, 0, 0, 0), some (.ifCond .ne 8, 80, 0, 85, 0, 0), none, none, some (.iload 4, 82, 0, 0, 0, 0), none, some (.goto 5, 85, 0, 87, 0, 0), none, none, some (.bipush 10, 87, 0, 0, 0, 10), none, some (.iload 5, 89, 0, 0, 0, 0), none, some (.idiv, 90, 0, 0, 0, 0), some (.ireturn, 91, 0, 0, 0, 0)]
set_option maxRecDepth 20000 in
noncomputable def tb_90 : List (Option RI) := [some (.aload_n 0, 1, 0, 0, 0, 0), some (.getfield 28, 4, 0, 6, 4, 0), none, none, some (.getfield 235, 7, 0, 0, 0, 0), none, none, some (.istore_n 2, 8, 0, 0, 0, 0), some (.aload_n 0, 9, 0, 0, 0, 0), some (.getfield 28, 12, 0, 6, 4, 0), none, none, some (.iload_n 1, 13, 0, 0, 0, 0), some (.putfield 235, 16, 0, 0, 0, 0), none, none, some (.iload_n 2, 17, 0, 0, 0, 0), some (.ireturn, 18, 0, 0, 0, 0)]
set_option maxRecDepth 20000 in
noncomputable def tb_91 : List (Option RI) := [some (.iload_n 1, 1, 0, 0, 0, 0), some (.istore_n 2, 2, 0, 0, 0, 0), some (.iconst 0, 3, 0, 0, 0, 0), some (.istore_n 3, 4, 0, 0, 0, 0), some (.iload_n 3, 5, 0, 0, 0, 0), some (.bipush 7, 7, 0, 0, 0, 7), none, some (.if_icmp .ge 38, 10, 0, 45, 0, 0), none, none, some (.iload_n 2, 11, 0, 0, 0, 0), some (.bipush 6, 13, 0, 0, 0, 6), none, some (.invokestatic 69, 16, 0, 54, 2, 0), none, none, some (.ifCond .eq 29, 19, 0, 45, 0, 0), none, none, some (.getstatic 255, 22, 0, 2, 0, 0), none, none, some (.iconst 4, 23, 0, 0, 0, 4), some (.iload_n 2, 24, 0, 0, 0, 0), some (.imul, 25, 0, 0, 0, 0), some (.iload_n 0, 26, 0, 0, 0, 0), some (.iadd, 27, 0, 0, 0, 0), some (.iaload, 28, 0, 0, 0, 0), some (.ifCond .eq 5, 31, 0, 33, 0, 0), none, none, some (.iload_n 2, 32, 0, 0, 0, 0), some (.ireturn, 33, 0, 0, 0, 0), some (.getstatic 118, 36, 0, 1, 0, 0), none, none, some (.iload_n 2, 37, 0, 0, 0, 0), some (.iaload, 38, 0, 0, 0, 0), some (.istore_n 2, 39, 0, 0, 0, 0), some (.iinc 3 1, 42, 0, 0, 0, 1), none, none, some (.goto (-38), 45, 0, 4, 0, 0), none, none, some (.iconst (-1), 46, 0, 0, 0, -1), some (.ireturn, 47, 0, 0, 0, 0)]
set_option maxRecDepth 20000 in
noncomputable def tb_92 : List (Option RI) := [some (.iload_n 1, 1, 0, 0, 0, 0), some (.iload_n 2, 2, 0, 0, 0, 0), some (.invokestatic 252, 5, 0, 91, 2, 0), none, none, some (.istore 5, 7, 0, 0, 0, 0), none, some (.iload 5, 9, 0, 0, 0, 0), none, some (.ifCond .lt 10, 12, 0, 19, 0, 0), none, none, some (.iload 4, 14, 0, 0, 0, 0), none, some (.bipush 30, 16, 0, 0, 0, 30), none, some (.if_icmp .le 5, 19, 0, 21, 0, 0), none, none, some (.iconst 0, 20, 0, 0, 0, 0), some (.ireturn, 21, 0, 0, 0, 0), some (.getstatic 255, 24, 0, 2, 0, 0), none, none, some (.iconst 4, 25, 0, 0, 0, 4), some (.iload 5, 27, 0, 0, 0, 0), none, some (.imul, 28, 0, 0, 0, 0), some (.iload_n 1, 29, 0, 0, 0, 0), some (.iadd, 30, 0, 0, 0, 0), some (.iaload, 31, 0, 0, 0, 0), some (.istore 6, 33, 0, 0, 0, 0), none, some (.aload_n 0, 34, 0, 0, 0, 0), some (.iload 6, 36, 0, 0, 0, 0), none, some (.invokevirtual 258, 39, 20, 50, 1, 0), none, none, some (.aload_n 0, 40, 0, 0, 0, 0), some (.getfield 243, 43, 0, 5, 2, 0), none, none, some (.istore 7, 45, 0, 0, 0, 0), none, some (.getstatic 118, 48, 0, 1, 0, 0), none, none, some (.iload 5, 50, 0, 0, 0, 0), none, some (.iaload, 51, 0, 0, 0, 0), some (.istore 8, 53, 0, 0, 0, 0), none, some (.iload 4, 55, 0, 0, 0, 0), none, some (.iconst 1, 56, 0, 0, 0, 1), some (.iadd, 57, 0, 0, 0, 0), some (.istore 9, 59, 0, 0, 0, 0), none, some (.iload 6, 61, 0, 0, 0, 0), none, some (.lookupswitch 268 #[(10, 99), (11, 106), (12, 119), (13, 126), (20, 148), (30, 161), (40, 183), (50, 195), (60, 217), (70, 230), (71, 246)], 160, 0, 0, 0, 0), none, none, none, none, none, none, none, none, none, none, none, none, none, none, none, none, none, none, none, none, none, none, none, none, none, none, none, none, none, none, none, none, none, none, none, none, none, none, none, none, none, none, none, none, none, none, none, none, none, none, none, none, none, none, none, none, none, none, none, none, none, none, none, none, none, none, none, none, none, none, none, none, none, none, none, none, none, none, none, none, none, none, none, none, none, none, none, none, none, none, none, none, none, none, none, none, none, none, some (.iload_n 3, 161, 0, 0, 0, 0), some (.aload_n 0, 162, 0, 0, 0, 0), some (.getfield 238, 165, 0, 5, 0, 0), none, none, some (.iadd, 166, 0, 0, 0, 0), some (.ireturn, 167, 0, 0, 0, 0), some (.aload_n 0, 168, 0, 0, 0, 0), some (.iconst 0, 169, 0, 0, 0, 0), some (.iload 7, 171, 0, 0, 0, 0), none, some (.iload_n 3, 172, 0, 0, 0, 0), some (.iload 9, 174, 0, 0, 0, 0), none, some (.invokestatic 248, 177, 0, 92, 5, 0), none, none, some (.iconst 2, 178, 0, 0, 0, 2), some (.imul, 179, 0, 0, 0, 0), some (.ireturn, 180, 0, 0, 0, 0), some (.iload_n 3, 181, 0, 0, 0, 0), some (.aload_n 0, 182, 0, 0, 0, 0), some (.getfield 241, 185, 0, 5, 1, 0), none, none, some (.isub, 186, 0, 0, 0, 0), some (.ireturn, 187, 0, 0, 0, 0), some (.aload_n 0, 188, 0, 0, 0, 0), some (.iconst 1, 189, 0, 0, 0, 1), some (.iload 7, 191, 0, 0, 0, 0), none, some (.iload_n 3, 192, 0, 0, 0, 0), some (.iload 9, 194, 0, 0, 0, 0), none, some (.invokestatic 248, 197, 0, 92, 5, 0), none, none, some (.aload_n 0, 198, 0, 0, 0, 0), some (.iconst 2, 199, 0, 0, 0, 2), some (.iload 7, 201, 0, 0, 0, 0), none, some (.iload_n 3, 202, 0, 0, 0, 0), some (.iload 9, 204, 0, 0, 0, 0), none, some (.invokestatic 248, 207, 0, 92, 5, 0), none, none, some (.ixor, 208, 0, 0, 0, 0), some (.ireturn, 209, 0, 0, 0, 0), some (.aload_n 0, 210, 0, 0, 0, 0), some (.iconst 0, 211, 0, 0, 0, 0), some (.iload 8, 213, 0, 0, 0, 0), none, some (.iload_n 3, 214, 0, 0, 0, 0), some (.iload 9, 216, 0, 0, 0, 0), none, some (.invokestatic 248, 219, 0, 92, 5, 0), none, none, some (.iconst 3, 220, 0, 0, 0, 3), some (.imul, 221, 0, 0, 0, 0), some (.ireturn, 222, 0, 0, 0, 0), some (.aload_n 0, 223, 0, 0, 0, 0), some (.iconst 1, 224, 0, 0, 0, 1), some (.iload 8, 226, 0, 0, 0, 0), none, some (.iload_n 3, 227, 0, 0, 0, 0), some (.iload 9, 229, 0, 0, 0, 0), none, some (.invokestatic 248, 232, 0, 92, 5, 0), none, none, some (.aload_n 0, 233, 0, 0, 0, 0), some (.iconst 2, 234, 0, 0, 0, 2), some (.iload 7, 236, 0, 0, 0, 0), none, some (.iconst 1, 237, 0, 0, 0, 1), some (.iload 9, 239, 0, 0, 0, 0), none, some (.invokestatic 248, 242, 0, 92, 5, 0), none, none, some (.isub, 243, 0, 0, 0, 0), some (.ireturn, 244, 0, 0, 0, 0), some (.aload_n 0, 245, 0, 0, 0, 0), some (.iconst 2, 246, 0, 0, 0, 2), some (.iload 8, 248, 0, 0, 0, 0), none, some (.iload_n 3, 249, 0, 0, 0, 0), some (.iload 9, 251, 0, 0, 0, 0), none, some (.invokestatic 248, 254, 0, 92, 5, 0), none, none, some (.ineg, 255, 0, 0, 0, 0), some (.ireturn, 256, 0, 0, 0, 0), some (.aload_n 0, 257, 0, 0, 0, 0), some (.iconst 3, 258, 0, 0, 0, 3), some (.iload 8, 260, 0, 0, 0, 0), none, some (.iload_n 3, 261, 0, 0, 0, 0), some (.iload 9, 263, 0, 0, 0, 0), none, some (.invokestatic 248, 266, 0, 92, 5, 0), none, none, some (.aload_n 0, 267, 0, 0, 0, 0), some (.iconst 0, 268, 0, 0, 0, 0), some (.iload 7, 270, 0, 0, 0, 0), none, some (.iconst 2, 271, 0, 0, 0, 2), some (.iload 9, 273, 0, 0, 0, 0), none, some (.invokestatic 248, 276, 0, 92, 5, 0), none, none, some (.isub, 277, 0, 0, 0, 0), some (.ireturn, 278, 0, 0, 0, 0), some (.aload_n 0, 279, 0, 0, 0, 0), some (.iconst 1, 280, 0, 0, 0, 1), some (.iload 8, 282, 0, 0, 0, 0), none, some (.iload_n 3, 283, 0, 0, 0, 0), some (.iconst 1, 284, 0, 0, 0, 1), some (.iadd, 285, 0, 0, 0, 0), some (.iload 9, 287, 0, 0, 0, 0), none, some (.invokestatic 248, 290, 0, 92, 5, 0), none, none, some (.ireturn, 291, 0, 0, 0, 0), some (.aload_n 0, 292, 0, 0, 0, 0), some (.iconst 2, 293, 0, 0, 0, 2), some (.iload 8, 295, 0, 0, 0, 0), none, some (.iload_n 3, 296, 0, 0, 0, 0), some (.iload 9, 298, 0, 0, 0, 0), none, some (.invokestatic 248, 301, 0, 92, 5, 0), none, none, some (.aload_n 0, 302, 0, 0, 0, 0), some (.getfield 238, 305, 0, 5, 0, 0), none, none, some (.ixor, 306, 0, 0, 0, 0), some (.ireturn, 307, 0, 0, 0, 0), some (.aload_n 0, 308, 0, 0, 0, 0), some (.iconst 1, 309, 0, 0, 0, 1), some (.iload 7, 311, 0, 0, 0, 0), none, some (.iload_n 3, 312, 0, 0, 0, 0), some (.iload 9, 314, 0, 0, 0, 0), none, some (.invokestatic 248, 317, 0, 92, 5, 0), none, none, some (.aload_n 0, 318, 0, 0, 0, 0), some (.iconst 3, 319, 0, 0, 0, 3), some (.iload 8, 321, 0, 0, 0, 0), none, some (.iload_n 3, 322, 0, 0, 0, 0), some (.iload 9, 324, 0, 0, 0, 0), none, some (.invokestatic 248, 327, 0, 92, 5, 0), none, none, some (.isub, 328, 0, 0, 0, 0), some (.ireturn, 329, 0, 0, 0, 0), some (.iconst 0, 330, 0, 0, 0, 0), some (.ireturn, 331, 0, 0, 0, 0)]
set_option maxRecDepth 20000 in
noncomputable def tb_93 : List (Option RI) := [some (.aload_n 0, 1, 0, 0, 0, 0), some (.iload_n 1, 2, 0, 0, 0, 0), some (.invokevirtual 105, 5, 20, 60, 1, 0), none, none, some (.ifCond .eq 11, 8, 0, 16, 0, 0), none, none, some (.iload_n 2, 9, 0, 0, 0, 0), some (.iconst 3, 10, 0, 0, 0, 3), some (.invokestatic 69, 13, 0, 54, 2, 0), none, none, some (.ifCond .ne 9, 16, 0, 22, 0, 0), none, none, some (.aload_n 0, 17, 0, 0, 0, 0), some (.iconst 1, 18, 0, 0, 0, 1), some (.invokevirtual 73, 21, 20, 55, 1, 0), none, none, some (.ireturn, 22, 0, 0, 0, 0), some (.aload_n 0, 23, 0, 0, 0, 0), some (.getfield 55, 26, 0, 6, 8, 0), none, none, some (.iload_n 1, 27, 0, 0, 0, 0), some (.putfield 238, 30, 0, 5, 0, 0), none, none, some (.aload_n 0, 31, 0, 0, 0, 0), some (.getfield 55, 34, 0, 6, 8, 0), none, none, some (.aload_n 0, 35, 0, 0, 0, 0), some (.getfield 10, 38, 0, 6, 0, 0), none, none, some (.getfield 89, 41, 0, 4, 2, 0), none, none, some (.iload_n 1, 42, 0, 0, 0, 0), some (.iaload, 43, 0, 0, 0, 0), some (.putfield 241, 46, 0, 5, 1, 0), none, none, some (.aload_n 0, 47, 0, 0, 0, 0), some (.getfield 55, 50, 0, 6, 8, 0), none, none, some (.aload_n 0, 51, 0, 0, 0, 0), some (.getfield 10, 54, 0, 6, 0, 0), none, none, some (.getfield 86, 57, 0, 4, 1, 0), none, none, some (.iload_n 1, 58, 0, 0, 0, 0), some (.iaload, 59, 0, 0, 0, 0), some (.putfield 243, 62, 0, 5, 2, 0), none, none, some (.aload_n 0, 63, 0, 0, 0, 0), some (.getfield 55, 66, 0, 6, 8, 0), none, none, some (.iconst 0, 67, 0, 0, 0, 0), some (.putfield 245, 70, 0, 5, 4, 0), none, none, some (.aload_n 0, 71, 0, 0, 0, 0), some (.getfield 55, 74, 0, 6, 8, 0), none, none, some (.iload_n 2, 75, 0, 0, 0, 0), some (.aload_n 0, 76, 0, 0, 0, 0), some (.getfield 55, 79, 0, 6, 8, 0), none, none, some (.getfield 243, 82, 0, 5, 2, 0), none, none, some (.iload_n 3, 83, 0, 0, 0, 0), some (.iconst 0, 84, 0, 0, 0, 0), some (.invokestatic 248, 87, 0, 92, 5, 0), none, none, some (.ireturn, 88, 0, 0, 0, 0)]
set_option maxRecDepth 20000 in
noncomputable def tb_94 : List (Option RI) := [some (.iload_n 1, 1, 0, 0, 0, 0), some (.ifCond .lt 14, 4, 0, 15, 0, 0), none, none, some (.iload_n 1, 5, 0, 0, 0, 0), some (.aload_n 0, 6, 0, 0, 0, 0), some (.getfield 55, 9, 0, 6, 8, 0), none, none, some (.getfield 245, 12, 0, 5, 4, 0), none, none, some (.if_icmp .lt 9, 15, 0, 21, 0, 0), none, none, some (.aload_n 0, 16, 0, 0, 0, 0), some (.iconst 2, 17, 0, 0, 0, 2), some (.invokevirtual 73, 20, 20, 55, 1, 0), none, none, some (.ireturn, 21, 0, 0, 0, 0), some (.aload_n 0, 22, 0, 0, 0, 0), some (.getfield 55, 25, 0, 6, 8, 0), none, none, some (.getfield 261, 28, 0, 5, 3, 0), none, none, some (.iload_n 1, 29, 0, 0, 0, 0), some (.iaload, 30, 0, 0, 0, 0), some (.ireturn, 31, 0, 0, 0, 0)]
set_option maxRecDepth 20000 in
noncomputable def tb_95 : List (Option RI) := [some (.iload_n 1, 1, 0, 0, 0, 0), some (.iconst 3, 2, 0, 0, 0, 3), some (.invokestatic 69, 5, 0, 54, 2, 0), none, none, some (.ifCond .eq 25, 8, 0, 30, 0, 0), none, none, some (.iload_n 2, 9, 0, 0, 0, 0), some (.ifCond .eq 27, 12, 0, 36, 0, 0), none, none, some (.iload_n 2, 13, 0, 0, 0, 0), some (.bipush 8, 15, 0, 0, 0, 8), none, some (.if_icmp .eq 21, 18, 0, 36, 0, 0), none, none, some (.iload_n 2, 19, 0, 0, 0, 0), some (.bipush 16, 21, 0, 0, 0, 16), none, some (.if_icmp .eq 15, 24, 0, 36, 0, 0), none, none, some (.iload_n 2, 25, 0, 0, 0, 0), some (.bipush 32, 27, 0, 0, 0, 32), none, some (.if_icmp .eq 9, 30, 0, 36, 0, 0), none, none, some (.aload_n 0, 31, 0, 0, 0, 0), some (.iconst 1, 32, 0, 0, 0, 1), some (.invokevirtual 73, 35, 20, 55, 1, 0), none, none, some (.ireturn, 36, 0, 0, 0, 0), some (.iload_n 2, 37, 0, 0, 0, 0), some (.ifCond .ne 16, 40, 0, 53, 0, 0), none, none, some (.aload_n 0, 41, 0, 0, 0, 0), some (.getfield 62, 44, 0, 6, 9, 0), none, none, some (.iload_n 1, 45, 0, 0, 0, 0), some (.aaload, 46, 0, 0, 0, 0), some (.iconst 0, 47, 0, 0, 0, 0), some (.iconst 0, 48, 0, 0, 0, 0), some (.invokevirtual 264, 51, 20, 27, 2, 0), none, none, some (.iconst 1, 52, 0, 0, 0, 1), some (.ireturn, 53, 0, 0, 0, 0), some (.iload_n 3, 54, 0, 0, 0, 0), some (.ifCond .ge 9, 57, 0, 63, 0, 0), none, none, some (.aload_n 0, 58, 0, 0, 0, 0), some (.iconst 3, 59, 0, 0, 0, 3), some (.invokevirtual 73, 62, 20, 55, 1, 0), none, none, some (.ireturn, 63, 0, 0, 0, 0), some (.iload_n 3, 64, 0, 0, 0, 0), some (.bipush 40, 66, 0, 0, 0, 40), none, some (.if_icmp .le 9, 69, 0, 75, 0, 0), none, none, some (.aload_n 0, 70, 0, 0, 0, 0), some (.iconst 1, 71, 0, 0, 0, 1), some (.invokevirtual 73, 74, 20, 55, 1, 0), none, none, some (.ireturn, 75, 0, 0, 0, 0), some (.aload_n 0, 76, 0, 0, 0, 0), some (.getfield 62, 79, 0, 6, 9, 0), none, none, some (.iload_n 1, 80, 0, 0, 0, 0), some (.aaload, 81, 0, 0, 0, 0), some (.iload_n 2, 82, 0, 0, 0, 0), some (.iload_n 3, 83, 0, 0, 0, 0), some (.invokevirtual 264, 86, 20, 27, 2, 0), none, none, some (.iconst 1, 87, 0, 0, 0, 1), some (.ireturn, 88, 0, 0, 0, 0)]
set_option maxRecDepth 20000 in
noncomputable def tb_96 : List (Option RI) := [some (.iload_n 1, 1, 0, 0, 0, 0), some (.iconst 3, 2, 0, 0, 0, 3), some (.invokestatic 69, 5, 0, 54, 2, 0), none, none, some (.ifCond .ne 9, 8, 0, 14, 0, 0), none, none, some (.aload_n 0, 9, 0, 0, 0, 0), some (.iconst 1, 10, 0, 0, 0, 1), some (.invokevirtual 73, 13, 20, 55, 1, 0), none, none, some (.ireturn, 14, 0, 0, 0, 0), some (.aload_n 0, 15, 0, 0, 0, 0), some (.getfield 62, 18, 0, 6, 9, 0), none, none, some (.iload_n 1, 19, 0, 0, 0, 0), some (.aaload, 20, 0, 0, 0, 0), some (.astore 4, 22, 0, 0, 0, 0), none, some (.aload 4, 24, 0, 0, 0, 0), none, some (.getfield 206, 27, 0, 3, 0, 0), none, none, some (.ifCond .ne 9, 30, 0, 36, 0, 0), none, none, some (.aload_n 0, 31, 0, 0, 0, 0), some (.iconst 2, 32, 0, 0, 0, 2), some (.invokevirtual 73, 35, 20, 55, 1, 0), none, none, some (.ireturn, 36, 0, 0, 0, 0), some (.iload_n 2, 37, 0, 0, 0, 0), some (.ifCond .lt 12, 40, 0, 49, 0, 0), none, none, some (.iload_n 2, 41, 0, 0, 0, 0), some (.aload 4, 43, 0, 0, 0, 0), none, some (.getfield 213, 46, 0, 3, 1, 0), none, none, some (.if_icmp .lt 9, 49, 0, 55, 0, 0), none, none, some (.aload_n 0, 50, 0, 0, 0, 0), some (.iconst 1, 51, 0, 0, 0, 1), some (.invokevirtual 73, 54, 20, 55, 1, 0), none, none, some (.ireturn, 55, 0, 0, 0, 0), some (.aload 4, 57, 0, 0, 0, 0), none, some (.getfield 267, 60, 0, 3, 2, 0), none, none, some (.iload_n 2, 61, 0, 0, 0, 0), some (.aload 4, 63, 0, 0, 0, 0), none, some (.iload_n 3, 64, 0, 0, 0, 0), some (.invokevirtual 270, 67, 20, 28, 1, 0), none, none, some (.iastore, 68, 0, 0, 0, 0), some (.iconst 1, 69, 0, 0, 0, 1), some (.ireturn, 70, 0, 0, 0, 0)]
set_option maxRecDepth 20000 in
noncomputable def tb_97 : List (Option RI) := [some (.iload_n 1, 1, 0, 0, 0, 0), some (.iconst 3, 2, 0, 0, 0, 3), some (.invokestatic 69, 5, 0, 54, 2, 0), none, none, some (.ifCond .eq 11, 8, 0, 16, 0, 0), none, none, some (.iload_n 3, 9, 0, 0, 0, 0), some (.iconst 3, 10, 0, 0, 0, 3), some (.invokestatic 69, 13, 0, 54, 2, 0), none, none, some (.ifCond .ne 9, 16, 0, 22, 0, 0), none, none, some (.aload_n 0, 17, 0, 0, 0, 0), some (.iconst 1, 18, 0, 0, 0, 1), some (.invokevirtual 73, 21, 20, 55, 1, 0), none, none, some (.ireturn, 22, 0, 0, 0, 0), some (.aload_n 0, 23, 0, 0, 0, 0), some (.getfield 62, 26, 0, 6, 9, 0), none, none, some (.iload_n 1, 27, 0, 0, 0, 0), some (.aaload, 28, 0, 0, 0, 0), some (.astore 6, 30, 0, 0, 0, 0), none, some (.aload_n 0, 31, 0, 0, 0, 0), some (.getfield 62, 34, 0, 6, 9, 0), none, none, some (.iload_n 3, 35, 0, 0, 0, 0), some (.aaload, 36, 0, 0, 0, 0), some (.astore 7, 38, 0, 0, 0, 0), none, some (.aload 6, 40, 0, 0, 0, 0), none, some (.getfield 206, 43, 0, 3, 0, 0), none, none, some (.ifCond .eq 11, 46, 0, 54, 0, 0), none, none, some (.aload 7, 48, 0, 0, 0, 0), none, some (.getfield 206, 51, 0, 3, 0, 0), none, none, some (.ifCond .ne 9, 54, 0, 60, 0, 0), none, none, some (.aload_n 0, 55, 0, 0, 0, 0), some (.iconst 2, 56, 0, 0, 0, 2), some (.invokevirtual 73, 59, 20, 55, 1, 0), none, none, some (.ireturn, 60, 0, 0, 0, 0), some (.aload 6, 62, 0, 0, 0, 0), none, some (.getfield 206, 65, 0, 3, 0, 0), none, none, some (.aload 7, 67, 0, 0, 0, 0), none, some (.getfield 206, 70, 0, 3, 0, 0), none, none, some (.if_icmp .eq 9, 73, 0, 79, 0, 0), none, none, some (.aload_n 0, 74, 0, 0, 0, 0), some (.iconst 5, 75, 0, 0, 0, 5), some (.invokevirtual 73, 78, 20, 55, 1, 0), none, none, some (.ireturn, 79, 0, 0, 0, 0), some (.iload 5, 81, 0, 0, 0, 0), none, some (.ifCond .lt 37, 84, 0, 118, 0, 0), none, none, some (.iload_n 2, 85, 0, 0, 0, 0), some (.ifCond .lt 33, 88, 0, 118, 0, 0), none, none, some (.iload 4, 90, 0, 0, 0, 0), none, some (.ifCond .lt 28, 93, 0, 118, 0, 0), none, none, some (.iload_n 2, 94, 0, 0, 0, 0), some (.aload 6, 96, 0, 0, 0, 0), none, some (.getfield 213, 99, 0, 3, 1, 0), none, none, some (.iload 5, 101, 0, 0, 0, 0), none, some (.isub, 102, 0, 0, 0, 0), some (.if_icmp .gt 16, 105, 0, 118, 0, 0), none, none, some (.iload 4, 107, 0, 0, 0, 0), none, some (.aload 7, 109, 0, 0, 0, 0), none, some (.getfield 213, 112, 0, 3, 1, 0), none, none, some (.iload 5, 114, 0, 0, 0, 0), none, some (.isub, 115, 0, 0, 0, 0), some (.if_icmp .le 9, 118, 0, 124, 0, 0), none, none, some (.aload_n 0, 119, 0, 0, 0, 0), some (.iconst 1, 120, 0, 0, 0, 1), some (.invokevirtual 73, 123, 20, 55, 1, 0), none, none, some (.ireturn, 124, 0, 0, 0, 0), some (.aload 6, 126, 0, 0, 0, 0), none, some (.getfield 267, 129, 0, 3, 2, 0), none, none, some (.iload_n 2, 130, 0, 0, 0, 0), some (.aload 7, 132, 0, 0, 0, 0), none, some (.getfield 267, 135, 0, 3, 2, 0), none, none, some (.iload 4, 137, 0, 0, 0, 0), none, some (.iload 5, 139, 0, 0, 0, 0), none, some (.invokestatic 273, 142, 4, 0, 5, 0), none, none, some (.iload 5, 144, 0, 0, 0, 0), none, some (.ireturn, 145, 0, 0, 0, 0)]
set_option maxRecDepth 20000 in
noncomputable def tb_98 : List (Option RI) := [some (.iload_n 1, 1, 0, 0, 0, 0), some (.iconst 3, 2, 0, 0, 0, 3), some (.invokestatic 69, 5, 0, 54, 2, 0), none, none, some (.ifCond .ne 9, 8, 0, 14, 0, 0), none, none, some (.aload_n 0, 9, 0, 0, 0, 0), some (.iconst 1, 10, 0, 0, 0, 1), some (.invokevirtual 73, 13, 20, 55, 1, 0), none, none, some (.ireturn, 14, 0, 0, 0, 0), some (.aload_n 0, 15, 0, 0, 0, 0), some (.getfield 62, 18, 0, 6, 9, 0), none, none, some (.iload_n 1, 19, 0, 0, 0, 0), some (.aaload, 20, 0, 0, 0, 0), some (.astore_n 2, 21, 0, 0, 0, 0), some (.aload_n 2, 22, 0, 0, 0, 0), some (.getfield 206, 25, 0, 3, 0, 0), none, none, some (.ifCond .ne 9, 28, 0, 34, 0, 0), none, none, some (.aload_n 0, 29, 0, 0, 0, 0), some (.iconst 2, 30, 0, 0, 0, 2), some (.invokevirtual 73, 33, 20, 55, 1, 0), none, none, some (.ireturn, 34, 0, 0, 0, 0), some (.aload_n 2, 35, 0, 0, 0, 0), some (.getfield 213, 38, 0, 3, 1, 0), none, none, some (.aload_n 0, 39, 0, 0, 0, 0), some (.getfield 10, 42, 0, 6, 0, 0), none, none, some (.getfield 83, 45, 0, 4, 10, 0), none, none, some (.invokestatic 279, 48, 3, 0, 2, 0), none, none, some (.istore_n 3, 49, 0, 0, 0, 0), some (.iconst 0, 50, 0, 0, 0, 0), some (.istore 4, 52, 0, 0, 0, 0), none, some (.iload 4, 54, 0, 0, 0, 0), none, some (.iload_n 3, 55, 0, 0, 0, 0), some (.if_icmp .ge 44, 58, 0, 99, 0, 0), none, none, some (.aload_n 2, 59, 0, 0, 0, 0), some (.getfield 267, 62, 0, 3, 2, 0), none, none, some (.iload 4, 64, 0, 0, 0, 0), none, some (.iaload, 65, 0, 0, 0, 0), some (.bipush 9, 67, 0, 0, 0, 9), none, some (.invokestatic 69, 70, 0, 54, 2, 0), none, none, some (.ifCond .ne 6, 73, 0, 76, 0, 0), none, none, some (.iload 4, 75, 0, 0, 0, 0), none, some (.ireturn, 76, 0, 0, 0, 0), some (.aload_n 0, 77, 0, 0, 0, 0), some (.getfield 10, 80, 0, 6, 0, 0), none, none, some (.getfield 95, 83, 0, 4, 4, 0), none, none, some (.iload 4, 85, 0, 0, 0, 0), none, some (.aload_n 2, 86, 0, 0, 0, 0), some (.getfield 267, 89, 0, 3, 2, 0), none, none, some (.iload 4, 91, 0, 0, 0, 0), none, some (.iaload, 92, 0, 0, 0, 0), some (.iastore, 93, 0, 0, 0, 0), some (.iinc 4 1, 96, 0, 0, 0, 1), none, none, some (.goto (-44), 99, 0, 52, 0, 0), none, none, some (.iload_n 3, 100, 0, 0, 0, 0), some (.ireturn, 101, 0, 0, 0, 0)]
set_option maxRecDepth 20000 in
noncomputable def tb_99 : List (Option RI) := [some (.iload_n 1, 1, 0, 0, 0, 0), some (.iconst 3, 2, 0, 0, 0, 3), some (.invokestatic 69, 5, 0, 54, 2, 0), none, none, some (.ifCond .ne 9, 8, 0, 14, 0, 0), none, none, some (.aload_n 0, 9, 0, 0, 0, 0), some (.iconst 1, 10, 0, 0, 0, 1), some (.invokevirtual 73, 13, 20, 55, 1, 0), none, none, some (.ireturn, 14, 0, 0, 0, 0), some (.aload_n 0, 15, 0, 0, 0, 0), some (.getfield 62, 18, 0, 6, 9, 0), none, none, some (.iload_n 1, 19, 0, 0, 0, 0), some (.aaload, 20, 0, 0, 0, 0), some (.astore_n 2, 21, 0, 0, 0, 0), some (.aload_n 2, 22, 0, 0, 0, 0), some (.getfield 206, 25, 0, 3, 0, 0), none, none, some (.ifCond .ne 9, 28, 0, 34, 0, 0), none, none, some (.aload_n 0, 29, 0, 0, 0, 0), some (.iconst 2, 30, 0, 0, 0, 2), some (.invokevirtual 73, 33, 20, 55, 1, 0), none, none, some (.ireturn, 34, 0, 0, 0, 0), some (.aload_n 2, 35, 0, 0, 0, 0), some (.getfield 213, 38, 0, 3, 1, 0), none, none, some (.aload_n 0, 39, 0, 0, 0, 0), some (.getfield 10, 42, 0, 6, 0, 0), none, none, some (.getfield 83, 45, 0, 4, 10, 0), none, none, some (.invokestatic 279, 48, 3, 0, 2, 0), none, none, some (.istore_n 3, 49, 0, 0, 0, 0), some (.iconst 0, 50, 0, 0, 0, 0), some (.istore 4, 52, 0, 0, 0, 0), none, some (.iload 4, 54, 0, 0, 0, 0), none, some (.iload_n 3, 55, 0, 0, 0, 0), some (.if_icmp .ge 30, 58, 0, 85, 0, 0), none, none, some (.aload_n 2, 59, 0, 0, 0, 0), some (.iload 4, 61, 0, 0, 0, 0), none, some (.aload_n 0, 62, 0, 0, 0, 0), some (.getfield 10, 65, 0, 6, 0, 0), none, none, some (.iload 4, 67, 0, 0, 0, 0), none, some (.invokevirtual 109, 70, 20, 34, 1, 0), none, none, some (.invokevirtual 216, 73, 20, 29, 2, 0), none, none, some (.ifCond .ne 6, 76, 0, 79, 0, 0), none, none, some (.iload 4, 78, 0, 0, 0, 0), none, some (.ireturn, 79, 0, 0, 0, 0), some (.iinc 4 1, 82, 0, 0, 0, 1), none, none, some (.goto (-30), 85, 0, 52, 0, 0), none, none, some (.aload_n 2, 86, 0, 0, 0, 0), some (.getfield 213, 89, 0, 3, 1, 0), none, none, some (.aload_n 0, 90, 0, 0, 0, 0), some (.getfield 10, 93, 0, 6, 0, 0), none, none, some (.getfield 83, 96, 0, 4, 10, 0), none, none, some (.if_icmp .ne 7, 99, 0, 103, 0, 0), none, none, some (.iconst (-1), 100, 0, 0, 0, -1), some (.goto 4, 103, 0, 104, 0, 0), none, none, some (.iload_n 3, 104, 0, 0, 0, 0), some (.ireturn, 105, 0, 0, 0, 0)]
set_option maxRecDepth 20000 in
noncomputable def tb_100 : List (Option RI) := [some (.aload_n 0, 1, 0, 0, 0, 0), some (.getfield 22, 4, 0, 6, 3, 0), none, none, some (.aload_n 0, 5, 0, 0, 0, 0), some (.getfield 10, 8, 0, 6, 0, 0), none, none, some (.invokevirtual 222, 11, 20, 31, 1, 0), none, none, some (.aload_n 0, 12, 0, 0, 0, 0), some (.getfield 32, 15, 0, 6, 5, 0), none, none, some (.aload_n 0, 16, 0, 0, 0, 0), some (.getfield 28, 19, 0, 6, 4, 0), none, none, some (.invokevirtual 284, 22, 20, 11, 1, 0), none, none, some (.aload_n 0, 23, 0, 0, 0, 0), some (.dup, 24, 0, 0, 0, 0), some (.getfield 35, 27, 0, 6, 6, 0), none, none, some (.iconst 1, 28, 0, 0, 0, 1), some (.iadd, 29, 0, 0, 0, 0), some (.putfield 35, 32, 0, 6, 6, 0), none, none, some (.aload_n 0, 33, 0, 0, 0, 0), some (.getfield 35, 36, 0, 6, 6, 0), none, none, some (.ireturn, 37, 0, 0, 0, 0)]
set_option maxRecDepth 20000 in
noncomputable def tb_101 : List (Option RI) := [some (.aload_n 0, 1, 0, 0, 0, 0), some (.getfield 35, 4, 0, 6, 6, 0), none, none, some (.ifCond .ne 9, 7, 0, 13, 0, 0), none, none, some (.aload_n 0, 8, 0, 0, 0, 0), some (.iconst 2, 9, 0, 0, 0, 2), some (.invokevirtual 73, 12, 20, 55, 1, 0), none, none, some (.ireturn, 13, 0, 0, 0, 0), some (.aload_n 0, 14, 0, 0, 0, 0), some (.getfield 10, 17, 0, 6, 0, 0), none, none, some (.aload_n 0, 18, 0, 0, 0, 0), some (.getfield 22, 21, 0, 6, 3, 0), none, none, some (.invokevirtual 222, 24, 20, 31, 1, 0), none, none, some (.aload_n 0, 25, 0, 0, 0, 0), some (.getfield 28, 28, 0, 6, 4, 0), none, none, some (.aload_n 0, 29, 0, 0, 0, 0), some (.getfield 32, 32, 0, 6, 5, 0), none, none, some (.invokevirtual 284, 35, 20, 11, 1, 0), none, none, some (.aload_n 0, 36, 0, 0, 0, 0), some (.getfield 10, 39, 0, 6, 0, 0), none, none, some (.getfield 157, 42, 0, 4, 9, 0), none, none, some (.ireturn, 43, 0, 0, 0, 0)]
set_option maxRecDepth 20000 in
noncomputable def tb_102 : List (Option RI) := [some (.aload_n 0, 1, 0, 0, 0, 0), some (.getfield 28, 4, 0, 6, 4, 0), none, none, some (.getfield 287, 7, 0, 0, 4, 0), none, none, some (.bipush 20, 9, 0, 0, 0, 20), none, some (.if_icmp .lt 9, 12, 0, 18, 0, 0), none, none, some (.aload_n 0, 13, 0, 0, 0, 0), some (.iconst 4, 14, 0, 0, 0, 4), some (.invokevirtual 73, 17, 20, 55, 1, 0), none, none, some (.ireturn, 18, 0, 0, 0, 0), some (.aload_n 0, 19, 0, 0, 0, 0), some (.getfield 28, 22, 0, 6, 4, 0), none, none, some (.getfield 290, 25, 0, 0, 3, 0), none, none, some (.aload_n 0, 26, 0, 0, 0, 0), some (.getfield 28, 29, 0, 6, 4, 0), none, none, some (.getfield 287, 32, 0, 0, 4, 0), none, none, some (.iload_n 1, 33, 0, 0, 0, 0), some (.iastore, 34, 0, 0, 0, 0), some (.aload_n 0, 35, 0, 0, 0, 0), some (.getfield 28, 38, 0, 6, 4, 0), none, none, some (.dup, 39, 0, 0, 0, 0), some (.getfield 287, 42, 0, 0, 4, 0), none, none, some (.iconst 1, 43, 0, 0, 0, 1), some (.iadd, 44, 0, 0, 0, 0), some (.putfield 287, 47, 0, 0, 4, 0), none, none, some (.aload_n 0, 48, 0, 0, 0, 0), some (.getfield 28, 51, 0, 6, 4, 0), none, none, some (.getfield 287, 54, 0, 0, 4, 0), none, none, some (.ireturn, 55, 0, 0, 0, 0)]
set_option maxRecDepth 20000 in
noncomputable def tb_103 : List (Option RI) := [some (.aload_n 0, 1, 0, 0, 0, 0), some (.getfield 28, 4, 0, 6, 4, 0), none, none, some (.getfield 287, 7, 0, 0, 4, 0), none, none, some (.istore_n 1, 8, 0, 0, 0, 0), some (.aload_n 0, 9, 0, 0, 0, 0), some (.getfield 28, 12, 0, 6, 4, 0), none, none, some (.iconst 0, 13, 0, 0, 0, 0), some (.putfield 287, 16, 0, 0, 4, 0), none, none, some (.aload_n 0, 17, 0, 0, 0, 0), some (.invokevirtual 183, 20, 20, 74, 0, 0), none, none, some (.astore_n 2, 21, 0, 0, 0, 0), some (.iconst 0, 22, 0, 0, 0, 0), some (.istore_n 3, 23, 0, 0, 0, 0), some (.iload_n 3, 24, 0, 0, 0, 0), some (.iload_n 1, 25, 0, 0, 0, 0), some (.if_icmp .ge 34, 28, 0, 59, 0, 0), none, none, some (.aload_n 2, 29, 0, 0, 0, 0), some (.invokevirtual 171, 32, 20, 40, 0, 0), none, none, some (.pop, 33, 0, 0, 0, 0), some (.aload_n 2, 34, 0, 0, 0, 0), some (.invokevirtual 164, 37, 20, 45, 0, 0), none, none, some (.aload_n 0, 38, 0, 0, 0, 0), some (.getfield 28, 41, 0, 6, 4, 0), none, none, some (.getfield 290, 44, 0, 0, 3, 0), none, none, some (.iload_n 3, 45, 0, 0, 0, 0), some (.iaload, 46, 0, 0, 0, 0), some (.if_icmp .eq 7, 49, 0, 53, 0, 0), none, none, some (.iconst 1, 50, 0, 0, 0, 1), some (.iload_n 3, 51, 0, 0, 0, 0), some (.iadd, 52, 0, 0, 0, 0), some (.ireturn, 53, 0, 0, 0, 0), some (.iinc 3 1, 56, 0, 0, 0, 1), none, none, some (.goto (-33), 59, 0, 23, 0, 0), none, none, some (.iconst 0, 60, 0, 0, 0, 0), some (.ireturn, 61, 0, 0, 0, 0)]
set_option maxRecDepth 20000 in
noncomputable def tb_104 : List (Option RI) := [some (.iload_n 1, 1, 0, 0, 0, 0), some (.tableswitch 135 0 9 #[55, 63, 71, 79, 87, 95, 103, 111, 119, 127], 56, 0, 0, 0, 0), none, none, none, none, none, none, none, none, none, none, none, none, none, none, none, none, none, none, none, none, none, none, none, none, none, none, none, none, none, none, none, none, none, none, none, none, none, none, none, none, none, none, none, none, none, none, none, none, none, none, none, none, none, none, some (.aload_n 0, 57, 0, 0, 0, 0), some (.getfield 10, 60, 0, 6, 0, 0), none, none, some (.getfield 83, 63, 0, 4, 10, 0), none, none, some (.ireturn, 64, 0, 0, 0, 0), some (.aload_n 0, 65, 0, 0, 0, 0), some (.getfield 10, 68, 0, 6, 0, 0), none, none, some (.getfield 80, 71, 0, 4, 8, 0), none, none, some (.ireturn, 72, 0, 0, 0, 0), some (.aload_n 0, 73, 0, 0, 0, 0), some (.getfield 10, 76, 0, 6, 0, 0), none, none, some (.getfield 157, 79, 0, 4, 9, 0), none, none, some (.ireturn, 80, 0, 0, 0, 0), some (.aload_n 0, 81, 0, 0, 0, 0), some (.getfield 10, 84, 0, 6, 0, 0), none, none, some (.invokevirtual 164, 87, 20, 45, 0, 0), none, none, some (.ireturn, 88, 0, 0, 0, 0), some (.aload_n 0, 89, 0, 0, 0, 0), some (.getfield 10, 92, 0, 6, 0, 0), none, none, some (.invokevirtual 229, 95, 20, 47, 0, 0), none, none, some (.ireturn, 96, 0, 0, 0, 0), some (.aload_n 0, 97, 0, 0, 0, 0), some (.getfield 10, 100, 0, 6, 0, 0), none, none, some (.invokevirtual 293, 103, 20, 48, 0, 0), none, none, some (.ireturn, 104, 0, 0, 0, 0), some (.aload_n 0, 105, 0, 0, 0, 0), some (.getfield 28, 108, 0, 6, 4, 0), none, none, some (.getfield 121, 111, 0, 0, 2, 0), none, none, some (.ireturn, 112, 0, 0, 0, 0), some (.aload_n 0, 113, 0, 0, 0, 0), some (.getfield 28, 116, 0, 6, 4, 0), none, none, some (.getfield 287, 119, 0, 0, 4, 0), none, none, some (.ireturn, 120, 0, 0, 0, 0), some (.aload_n 0, 121, 0, 0, 0, 0), some (.getfield 55, 124, 0, 6, 8, 0), none, none, some (.getfield 245, 127, 0, 5, 4, 0), none, none, some (.ireturn, 128, 0, 0, 0, 0), some (.aload_n 0, 129, 0, 0, 0, 0), some (.getfield 28, 132, 0, 6, 4, 0), none, none, some (.getfield 235, 135, 0, 0, 0, 0), none, none, some (.ireturn, 136, 0, 0, 0, 0), some (.aload_n 0, 137, 0, 0, 0, 0), some (.iconst 1, 138, 0, 0, 0, 1), some (.invokevirtual 73, 141, 20, 55, 1, 0), none, none, some (.ireturn, 142, 0, 0, 0, 0)]
set_option maxRecDepth 20000 in
noncomputable def tb_105 : List (Option RI) := [some (.iload_n 1, 1, 0, 0, 0, 0), some (.iconst 1, 2, 0, 0, 0, 1), some (.if_icmp .lt 8, 5, 0, 10, 0, 0), none, none, some (.iload_n 1, 6, 0, 0, 0, 0), some (.iconst 5, 7, 0, 0, 0, 5), some (.if_icmp .le 9, 10, 0, 16, 0, 0), none, none, some (.aload_n 0, 11, 0, 0, 0, 0), some (.iconst 1, 12, 0, 0, 0, 1), some (.invokevirtual 73, 15, 20, 55, 1, 0), none, none, some (.ireturn, 16, 0, 0, 0, 0), some (.aload_n 0, 17, 0, 0, 0, 0), some (.getfield 66, 20, 0, 6, 10, 0), none, none, some (.iload_n 1, 21, 0, 0, 0, 0), some (.iaload, 22, 0, 0, 0, 0), some (.ireturn, 23, 0, 0, 0, 0)]
set_option maxRecDepth 20000 in
noncomputable def tb_106 : List (Option RI) := [some (.aload_n 0, 1, 0, 0, 0, 0), some (.invokespecial 1, 4, 12, 0, 0, 0), none, none, some (.aload_n 0, 5, 0, 0, 0, 0), some (.sipush 234, 8, 0, 0, 0, 234), none, none, some (.newarray .int, 10, 0, 0, 0, 0), none, some (.putfield 7, 13, 0, 7, 0, 0), none, none, some (.aload_n 0, 14, 0, 0, 0, 0), some (.sipush 234, 17, 0, 0, 0, 234), none, none, some (.newarray .int, 19, 0, 0, 0, 0), none, some (.putfield 13, 22, 0, 7, 1, 0), none, none, some (.aload_n 0, 23, 0, 0, 0, 0), some (.sipush 234, 26, 0, 0, 0, 234), none, none, some (.newarray .int, 28, 0, 0, 0, 0), none, some (.putfield 16, 31, 0, 7, 2, 0), none, none, some (.aload_n 0, 32, 0, 0, 0, 0), some (.sipush 234, 35, 0, 0, 0, 234), none, none, some (.newarray .int, 37, 0, 0, 0, 0), none, some (.putfield 19, 40, 0, 7, 3, 0), none, none, some (.aload_n 0, 41, 0, 0, 0, 0), some (.bipush 6, 43, 0, 0, 0, 6), none, some (.newarray .int, 45, 0, 0, 0, 0), none, some (.putfield 22, 48, 0, 7, 6, 0), none, none, some (.aload_n 0, 49, 0, 0, 0, 0), some (.iconst 4, 50, 0, 0, 0, 4), some (.newarray .int, 52, 0, 0, 0, 0), none, some (.putfield 25, 55, 0, 7, 15, 0), none, none, some (.aload_n 0, 56, 0, 0, 0, 0), some (.iconst 4, 57, 0, 0, 0, 4), some (.newarray .int, 59, 0, 0, 0, 0), none, some (.putfield 28, 62, 0, 7, 16, 0), none, none, some (.aload_n 0, 63, 0, 0, 0, 0), some (.sipush 160, 66, 0, 0, 0, 160), none, none, some (.newarray .int, 68, 0, 0, 0, 0), none, some (.putfield 31, 71, 0, 7, 17, 0), none, none, some (.aload_n 0, 72, 0, 0, 0, 0), some (.bipush 40, 74, 0, 0, 0, 40), none, some (.newarray .int, 76, 0, 0, 0, 0), none, some (.putfield 34, 79, 0, 7, 18, 0), none, none, some (.aload_n 0, 80, 0, 0, 0, 0), some (.bipush 8, 82, 0, 0, 0, 8), none, some (.newarray .int, 84, 0, 0, 0, 0), none, some (.putfield 37, 87, 0, 7, 19, 0), none, none, some (.aload_n 0, 88, 0, 0, 0, 0), some (.bipush 40, 90, 0, 0, 0, 40), none, some (.newarray .int, 92, 0, 0, 0, 0), none, some (.putfield 40, 95, 0, 7, 20, 0), none, none, some (.aload_n 0, 96, 0, 0, 0, 0), some (.getfield 7, 99, 0, 7, 0, 0), none, none, some (.iconst 1, 100, 0, 0, 0, 1), some (.iconst 1, 101, 0, 0, 0, 1), some (.iastore, 102, 0, 0, 0, 0), some (.aload_n 0, 103, 0, 0, 0, 0), some (.getfield 7, 106, 0, 7, 0, 0), none, none, some (.bipush 7, 108, 0, 0, 0, 7), none, some (.iconst 1, 109, 0, 0, 0, 1), some (.iastore, 110, 0, 0, 0, 0), some (.aload_n 0, 111, 0, 0, 0, 0), some (.getfield 7, 114, 0, 7, 0, 0), none, none, some (.iconst 5, 115, 0, 0, 0, 5), some (.iconst (-1), 116, 0, 0, 0, -1), some (.iastore, 117, 0, 0, 0, 0), some (.aload_n 0, 118, 0, 0, 0, 0), some (.getfield 7, 121, 0, 7, 0, 0), none, none, some (.bipush 6, 123, 0, 0, 0, 6), none, some (.iconst (-1), 124, 0, 0, 0, -1), some (.iastore, 125, 0, 0, 0, 0), some (.iconst 0, 126, 0, 0, 0, 0), some (.istore_n 1, 127, 0, 0, 0, 0), some (.iload_n 1, 128, 0, 0, 0, 0), some (.bipush 8, 130, 0, 0, 0, 8), none, some (.if_icmp .ge 19, 133, 0, 149, 0, 0), none, none, some (.aload_n 0, 134, 0, 0, 0, 0), some (.getfield 7, 137, 0, 7, 0, 0), none, none, some (.bipush 8, 139, 0, 0, 0, 8), none, some (.iload_n 1, 140, 0, 0, 0, 0), some (.iadd, 141, 0, 0, 0, 0), some (.iconst 5, 142, 0, 0, 0, 5), some (.iastore, 143, 0, 0, 0, 0), some (.iinc 1 1, 146, 0, 0, 0, 1), none, none, some (.goto (-19), 149, 0, 127, 0, 0), none, none, some (.return_, 150, 0, 0, 0, 0)]
set_option maxRecDepth 20000 in
noncomputable def tb_107 : List (Option RI) := [some (.iload_n 0, 1, 0, 0, 0, 0), some (.iload_n 1, 2, 0, 0, 0, 0), some (.if_icmp .lt 12, 5, 0, 14, 0, 0), none, none, some (.iload_n 0, 6, 0, 0, 0, 0), some (.iload_n 2, 7, 0, 0, 0, 0), some (.if_icmp .gt 7, 10, 0, 14, 0, 0), none, none, some (.iconst 1, 11, 0, 0, 0, 1), some (.goto 4, 14, 0, 15, 0, 0), none, none, some (.iconst 0, 15, 0, 0, 0, 0), some (.ireturn, 16, 0, 0, 0, 0)]
set_option maxRecDepth 20000 in
noncomputable def tb_108 : List (Option RI) := [some (.aload_n 0, 1, 0, 0, 0, 0), some (.getfield 22, 4, 0, 7, 6, 0), none, none, some (.ldc 43, 6, 0, 0, 0, -1000000000), none, some (.iload_n 1, 7, 0, 0, 0, 0), some (.isub, 8, 0, 0, 0, 0), some (.dup2, 9, 0, 0, 0, 0), some (.iaload, 10, 0, 0, 0, 0), some (.iconst 1, 11, 0, 0, 0, 1), some (.iadd, 12, 0, 0, 0, 0), some (.iastore, 13, 0, 0, 0, 0), some (.iload_n 1, 14, 0, 0, 0, 0), some (.ireturn, 15, 0, 0, 0, 0)]
set_option maxRecDepth 20000 in
noncomputable def tb_109 : List (Option RI) := [some (.iload_n 0, 1, 0, 0, 0, 0), some (.iload_n 1, 2, 0, 0, 0, 0), some (.if_icmp .ge 7, 5, 0, 9, 0, 0), none, none, some (.iload_n 1, 6, 0, 0, 0, 0), some (.goto 13, 9, 0, 19, 0, 0), none, none, some (.iload_n 0, 10, 0, 0, 0, 0), some (.iload_n 2, 11, 0, 0, 0, 0), some (.if_icmp .le 7, 14, 0, 18, 0, 0), none, none, some (.iload_n 2, 15, 0, 0, 0, 0), some (.goto 4, 18, 0, 19, 0, 0), none, none, some (.iload_n 0, 19, 0, 0, 0, 0), some (.ireturn, 20, 0, 0, 0, 0)]
set_option maxRecDepth 20000 in
noncomputable def tb_110 : List (Option RI) := [some (.iconst 0, 1, 0, 0, 0, 0), some (.istore_n 3, 2, 0, 0, 0, 0), some (.iload_n 3, 3, 0, 0, 0, 0), some (.sipush 234, 6, 0, 0, 0, 234), none, none, some (.if_icmp .ge 15, 9, 0, 21, 0, 0), none, none, some (.aload_n 2, 10, 0, 0, 0, 0), some (.iload_n 3, 11, 0, 0, 0, 0), some (.aload_n 1, 12, 0, 0, 0, 0), some (.iload_n 3, 13, 0, 0, 0, 0), some (.iaload, 14, 0, 0, 0, 0), some (.iastore, 15, 0, 0, 0, 0), some (.iinc 3 1, 18, 0, 0, 0, 1), none, none, some (.goto (-16), 21, 0, 2, 0, 0), none, none, some (.return_, 22, 0, 0, 0, 0)]
set_option maxRecDepth 20000 in
noncomputable def tb_111 : List (Option RI) := [some (.aload_n 0, 1, 0, 0, 0, 0), some (.getfield 7, 4, 0, 7, 0, 0), none, none, some (.bipush 16, 6, 0, 0, 0, 16), none, some (.bipush 6, 8, 0, 0, 0, 6), none, some (.iload_n 1, 9, 0, 0, 0, 0), some (.imul, 10, 0, 0, 0, 0), some (.iadd, 11, 0, 0, 0, 0), some (.iload_n 2, 12, 0, 0, 0, 0), some (.iadd, 13, 0, 0, 0, 0), some (.iaload, 14, 0, 0, 0, 0), some (.ireturn, 15, 0, 0, 0, 0)]
set_option maxRecDepth 20000 in
noncomputable def tb_112 : List (Option RI) := [some (.aload_n 0, 1, 0, 0, 0, 0), some (.getfield 7, 4, 0, 7, 0, 0), none, none, some (.bipush 16, 6, 0, 0, 0, 16), none, some (.bipush 6, 8, 0, 0, 0, 6), none, some (.iload_n 1, 9, 0, 0, 0, 0), some (.imul, 10, 0, 0, 0, 0), some (.iadd, 11, 0, 0, 0, 0), some (.iload_n 2, 12, 0, 0, 0, 0), some (.iadd, 13, 0, 0, 0, 0), some (.iload_n 3, 14, 0, 0, 0, 0), some (.iastore, 15, 0, 0, 0, 0), some (.return_, 16, 0, 0, 0, 0)]
set_option maxRecDepth 20000 in
noncomputable def tb_113 : List (Option RI) := [some (.iload_n 1, 1, 0, 0, 0, 0), some (.iconst 0, 2, 0, 0, 0, 0), some (.aload_n 0, 3, 0, 0, 0, 0), some (.getfield 7, 6, 0, 7, 0, 0), none, none, some (.iconst 2, 7, 0, 0, 0, 2), some (.iaload, 8, 0, 0, 0, 0), some (.iconst 1, 9, 0, 0, 0, 1), some (.isub, 10, 0, 0, 0, 0), some (.invokestatic 44, 13, 0, 107, 3, 0), none, none, some (.ireturn, 14, 0, 0, 0, 0)]
set_option maxRecDepth 20000 in
noncomputable def tb_114 : List (Option RI) := [some (.aload_n 0, 1, 0, 0, 0, 0), some (.getfield 7, 4, 0, 7, 0, 0), none, none, some (.iload_n 1, 5, 0, 0, 0, 0), some (.iaload, 6, 0, 0, 0, 0), some (.istore_n 3, 7, 0, 0, 0, 0), some (.aload_n 0, 8, 0, 0, 0, 0), some (.getfield 7, 11, 0, 7, 0, 0), none, none, some (.iload_n 1, 12, 0, 0, 0, 0), some (.iload_n 2, 13, 0, 0, 0, 0), some (.iastore, 14, 0, 0, 0, 0), some (.iload_n 3, 15, 0, 0, 0, 0), some (.ireturn, 16, 0, 0, 0, 0)]
set_option maxRecDepth 20000 in
noncomputable def tb_115 : List (Option RI) := [some (.iload_n 1, 1, 0, 0, 0, 0), some (.iconst 0, 2, 0, 0, 0, 0), some (.bipush 7, 4, 0, 0, 0, 7), none, some (.invokestatic 44, 7, 0, 107, 3, 0), none, none, some (.ifCond .eq 25, 10, 0, 32, 0, 0), none, none, some (.iload_n 2, 11, 0, 0, 0, 0), some (.iconst 0, 12, 0, 0, 0, 0), some (.bipush 30, 14, 0, 0, 0, 30), none, some (.invokestatic 44, 17, 0, 107, 3, 0), none, none, some (.ifCond .eq 15, 20, 0, 32, 0, 0), none, none, some (.aload_n 0, 21, 0, 0, 0, 0), some (.bipush 8, 23, 0, 0, 0, 8), none, some (.iload_n 1, 24, 0, 0, 0, 0), some (.iadd, 25, 0, 0, 0, 0), some (.iload_n 2, 26, 0, 0, 0, 0), some (.invokevirtual 48, 29, 20, 114, 2, 0), none, none, some (.goto 9, 32, 0, 38, 0, 0), none, none, some (.aload_n 0, 33, 0, 0, 0, 0), some (.ldc 52, 35, 0, 0, 0, -1000000001), none, some (.invokevirtual 53, 38, 20, 108, 1, 0), none, none, some (.ireturn, 39, 0, 0, 0, 0)]
set_option maxRecDepth 20000 in
noncomputable def tb_116 : List (Option RI) := [some (.iload_n 1, 1, 0, 0, 0, 0), some (.iconst 0, 2, 0, 0, 0, 0), some (.bipush 7, 4, 0, 0, 0, 7), none, some (.invokestatic 44, 7, 0, 107, 3, 0), none, none, some (.ifCond .eq 15, 10, 0, 22, 0, 0), none, none, some (.aload_n 0, 11, 0, 0, 0, 0), some (.getfield 7, 14, 0, 7, 0, 0), none, none, some (.bipush 8, 16, 0, 0, 0, 8), none, some (.iload_n 1, 17, 0, 0, 0, 0), some (.iadd, 18, 0, 0, 0, 0), some (.iaload, 19, 0, 0, 0, 0), some (.goto 9, 22, 0, 28, 0, 0), none, none, some (.aload_n 0, 23, 0, 0, 0, 0), some (.ldc 52, 25, 0, 0, 0, -1000000001), none, some (.invokevirtual 53, 28, 20, 108, 1, 0), none, none, some (.ireturn, 29, 0, 0, 0, 0)]
set_option maxRecDepth 20000 in
noncomputable def tb_117 : List (Option RI) := [some (.iload_n 1, 1, 0, 0, 0, 0), some (.iconst 1, 2, 0, 0, 0, 1), some (.iconst 4, 3, 0, 0, 0, 4), some (.invokestatic 44, 6, 0, 107, 3, 0), none, none, some (.ifCond .eq 13, 9, 0, 19, 0, 0), none, none, some (.aload_n 0, 10, 0, 0, 0, 0), some (.bipush 7, 12, 0, 0, 0, 7), none, some (.iload_n 1, 13, 0, 0, 0, 0), some (.invokevirtual 48, 16, 20, 114, 2, 0), none, none, some (.goto 9, 19, 0, 25, 0, 0), none, none, some (.aload_n 0, 20, 0, 0, 0, 0), some (.ldc 52, 22, 0, 0, 0, -1000000001), none, some (.invokevirtual 53, 25, 20, 108, 1, 0), none, none, some (.ireturn, 26, 0, 0, 0, 0)]
set_option maxRecDepth 20000 in
noncomputable def tb_118 : List (Option RI) := [some (.iload_n 1, 1, 0, 0, 0, 0), some (.iconst 0, 2, 0, 0, 0, 0), some (.bipush 69, 4, 0, 0, 0, 69), none, some (.invokestatic 44, 7, 0, 107, 3, 0), none, none, some (.ifCond .eq 23, 10, 0, 30, 0, 0), none, none, some (.iload_n 2, 11, 0, 0, 0, 0), some (.iconst 0, 12, 0, 0, 0, 0), some (.bipush 99, 14, 0, 0, 0, 99), none, some (.invokestatic 44, 17, 0, 107, 3, 0), none, none, some (.ifCond .eq 13, 20, 0, 30, 0, 0), none, none, some (.iload_n 3, 21, 0, 0, 0, 0), some (.iconst 0, 22, 0, 0, 0, 0), some (.bipush 9, 24, 0, 0, 0, 9), none, some (.invokestatic 44, 27, 0, 107, 3, 0), none, none, some (.ifCond .ne 10, 30, 0, 37, 0, 0), none, none, some (.aload_n 0, 31, 0, 0, 0, 0), some (.ldc 52, 33, 0, 0, 0, -1000000001), none, some (.invokevirtual 53, 36, 20, 108, 1, 0), none, none, some (.ireturn, 37, 0, 0, 0, 0), some (.aload_n 0, 38, 0, 0, 0, 0), some (.getfield 7, 41, 0, 7, 0, 0), none, none, some (.iconst 2, 42, 0, 0, 0, 2), some (.iaload, 43, 0, 0, 0, 0), some (.bipush 8, 45, 0, 0, 0, 8), none, some (.if_icmp .ne 10, 48, 0, 55, 0, 0), none, none, some (.aload_n 0, 49, 0, 0, 0, 0), some (.ldc 57, 51, 0, 0, 0, -1000000004), none, some (.invokevirtual 53, 54, 20, 108, 1, 0), none, none, some (.ireturn, 55, 0, 0, 0, 0), some (.aload_n 0, 56, 0, 0, 0, 0), some (.getfield 7, 59, 0, 7, 0, 0), none, none, some (.iconst 2, 60, 0, 0, 0, 2), some (.iaload, 61, 0, 0, 0, 0), some (.istore 4, 63, 0, 0, 0, 0), none, some (.aload_n 0, 64, 0, 0, 0, 0), some (.iload 4, 66, 0, 0, 0, 0), none, some (.iconst 0, 67, 0, 0, 0, 0), some (.iload_n 1, 68, 0, 0, 0, 0), some (.bipush 10, 70, 0, 0, 0, 10), none, some (.idiv, 71, 0, 0, 0, 0), some (.invokevirtual 58, 74, 20, 112, 3, 0), none, none, some (.aload_n 0, 75, 0, 0, 0, 0), some (.iload 4, 77, 0, 0, 0, 0), none, some (.iconst 1, 78, 0, 0, 0, 1), some (.iload_n 1, 79, 0, 0, 0, 0), some (.bipush 10, 81, 0, 0, 0, 10), none, some (.irem, 82, 0, 0, 0, 0), some (.invokevirtual 58, 85, 20, 112, 3, 0), none, none, some (.aload_n 0, 86, 0, 0, 0, 0), some (.iload 4, 88, 0, 0, 0, 0), none, some (.iconst 2, 89, 0, 0, 0, 2), some (.iload_n 2, 90, 0, 0, 0, 0), some (.invokevirtual 58, 93, 20, 112, 3, 0), none, none, some (.aload_n 0, 94, 0, 0, 0, 0), some (.iload 4, 96, 0, 0, 0, 0), none, some (.iconst 3, 97, 0, 0, 0, 3), some (.iload_n 3, 98, 0, 0, 0, 0), some (.invokevirtual 58, 101, 20, 112, 3, 0), none, none, some (.aload_n 0, 102, 0, 0, 0, 0), some (.iload 4, 104, 0, 0, 0, 0), none, some (.iconst 4, 105, 0, 0, 0, 4), some (.iconst 0, 106, 0, 0, 0, 0), some (.invokevirtual 58, 109, 20, 112, 3, 0), none, none, some (.aload_n 0, 110, 0, 0, 0, 0), some (.iload 4, 112, 0, 0, 0, 0), none, some (.iconst 5, 113, 0, 0, 0, 5), some (.iconst 0, 114, 0, 0, 0, 0), some (.invokevirtual 58, 117, 20, 112, 3, 0), none, none, some (.aload_n 0, 118, 0, 0, 0, 0), some (.getfield 7, 121, 0, 7, 0, 0), none, none, some (.iconst 2, 122, 0, 0, 0, 2), some (.dup2, 123, 0, 0, 0, 0), some (.iaload, 124, 0, 0, 0, 0), some (.iconst 1, 125, 0, 0, 0, 1), some (.iadd, 126, 0, 0, 0, 0), some (.iastore, 127, 0, 0, 0, 0), some (.iload 4, 129, 0, 0, 0, 0), none, some (.ireturn, 130, 0, 0, 0, 0)]
set_option maxRecDepth 20000 in
noncomputable def tb_119 : List (Option RI) := [some (.iload_n 1, 1, 0, 0, 0, 0), some (.aload_n 0, 2, 0, 0, 0, 0), some (.getfield 76, 5, 0, 7, 9, 0), none, none, some (.if_icmp .ge 24, 8, 0, 29, 0, 0), none, none, some (.aload_n 0, 9, 0, 0, 0, 0), some (.getfield 7, 12, 0, 7, 0, 0), none, none, some (.sipush 134, 15, 0, 0, 0, 134), none, none, some (.bipush 50, 17, 0, 0, 0, 50), none, some (.aload_n 0, 18, 0, 0, 0, 0), some (.getfield 80, 21, 0, 7, 7, 0), none, none, some (.imul, 22, 0, 0, 0, 0), some (.iadd, 23, 0, 0, 0, 0), some (.iload_n 1, 24, 0, 0, 0, 0), some (.iadd, 25, 0, 0, 0, 0), some (.iaload, 26, 0, 0, 0, 0), some (.goto 4, 29, 0, 30, 0, 0), none, none, some (.iconst (-1), 30, 0, 0, 0, -1), some (.ireturn, 31, 0, 0, 0, 0)]
set_option maxRecDepth 20000 in
noncomputable def tb_120 : List (Option RI) := [some (.iload_n 0, 1, 0, 0, 0, 0), some (.bipush 48, 3, 0, 0, 0, 48), none, some (.bipush 57, 5, 0, 0, 0, 57), none, some (.invokestatic 44, 8, 0, 107, 3, 0), none, none, some (.ireturn, 9, 0, 0, 0, 0)]
set_option maxRecDepth 20000 in
noncomputable def tb_121 : List (Option RI) := [some (.iconst 0, 1, 0, 0, 0, 0), some (.istore_n 1, 2, 0, 0, 0, 0), some (.iconst 0, 3, 0, 0, 0, 0), some (.istore_n 2, 4, 0, 0, 0, 0), some (.iload_n 2, 5, 0, 0, 0, 0), some (.iconst 4, 6, 0, 0, 0, 4), some (.if_icmp .ge 50, 9, 0, 56, 0, 0), none, none, some (.aload_n 0, 10, 0, 0, 0, 0), some (.aload_n 0, 11, 0, 0, 0, 0), some (.getfield 87, 14, 0, 7, 8, 0), none, none, some (.invokevirtual 90, 17, 20, 119, 1, 0), none, none, some (.invokestatic 93, 20, 0, 120, 1, 0), none, none, some (.ifCond .eq 36, 23, 0, 56, 0, 0), none, none, some (.bipush 10, 25, 0, 0, 0, 10), none, some (.iload_n 1, 26, 0, 0, 0, 0), some (.imul, 27, 0, 0, 0, 0), some (.aload_n 0, 28, 0, 0, 0, 0), some (.aload_n 0, 29, 0, 0, 0, 0), some (.getfield 87, 32, 0, 7, 8, 0), none, none, some (.invokevirtual 90, 35, 20, 119, 1, 0), none, none, some (.iadd, 36, 0, 0, 0, 0), some (.bipush 48, 38, 0, 0, 0, 48), none, some (.isub, 39, 0, 0, 0, 0), some (.istore_n 1, 40, 0, 0, 0, 0), some (.aload_n 0, 41, 0, 0, 0, 0), some (.dup, 42, 0, 0, 0, 0), some (.getfield 87, 45, 0, 7, 8, 0), none, none, some (.iconst 1, 46, 0, 0, 0, 1), some (.iadd, 47, 0, 0, 0, 0), some (.putfield 87, 50, 0, 7, 8, 0), none, none, some (.iinc 2 1, 53, 0, 0, 0, 1), none, none, some (.goto (-49), 56, 0, 4, 0, 0), none, none, some (.iload_n 1, 57, 0, 0, 0, 0), some (.ireturn, 58, 0, 0, 0, 0)]
set_option maxRecDepth 20000 in
noncomputable def tb_122 : List (Option RI) := [some (.aload_n 0, 1, 0, 0, 0, 0), some (.iconst 0, 2, 0, 0, 0, 0), some (.putfield 83, 5, 0, 7, 14, 0), none, none, some (.iconst 0, 6, 0, 0, 0, 0), some (.ireturn, 7, 0, 0, 0, 0)]
set_option maxRecDepth 20000 in
noncomputable def tb_123 : List (Option RI) := [some (.iload_n 1, 1, 0, 0, 0, 0), some (.bipush 104, 3, 0, 0, 0, 104), none, some (.if_icmp .ne 7, 6, 0, 10, 0, 0), none, none, some (.iconst 1, 7, 0, 0, 0, 1), some (.goto 4, 10, 0, 11, 0, 0), none, none, some (.iconst 0, 11, 0, 0, 0, 0), some (.istore_n 2, 12, 0, 0, 0, 0), some (.iload_n 1, 13, 0, 0, 0, 0), some (.aload_n 0, 14, 0, 0, 0, 0), some (.getfield 80, 17, 0, 7, 7, 0), none, none, some (.ifCond .ne 8, 20, 0, 25, 0, 0), none, none, some (.bipush 99, 22, 0, 0, 0, 99), none, some (.goto 5, 25, 0, 27, 0, 0), none, none, some (.bipush 102, 27, 0, 0, 0, 102), none, some (.if_icmp .ne 7, 30, 0, 34, 0, 0), none, none, some (.iconst 1, 31, 0, 0, 0, 1), some (.goto 4, 34, 0, 35, 0, 0), none, none, some (.iconst 0, 35, 0, 0, 0, 0), some (.istore_n 3, 36, 0, 0, 0, 0), some (.iload_n 1, 37, 0, 0, 0, 0), some (.aload_n 0, 38, 0, 0, 0, 0), some (.getfield 80, 41, 0, 7, 7, 0), none, none, some (.ifCond .ne 8, 44, 0, 49, 0, 0), none, none, some (.bipush 115, 46, 0, 0, 0, 115), none, some (.goto 5, 49, 0, 51, 0, 0), none, none, some (.bipush 99, 51, 0, 0, 0, 99), none, some (.if_icmp .ne 7, 54, 0, 58, 0, 0), none, none, some (.iconst 1, 55, 0, 0, 0, 1), some (.goto 4, 58, 0, 59, 0, 0), none, none, some (.iconst 0, 59, 0, 0, 0, 0), some (.istore 4, 61, 0, 0, 0, 0), none, some (.iload_n 2, 62, 0, 0, 0, 0), some (.ifCond .ne 17, 65, 0, 79, 0, 0), none, none, some (.iload_n 3, 66, 0, 0, 0, 0), some (.ifCond .ne 13, 69, 0, 79, 0, 0), none, none, some (.iload 4, 71, 0, 0, 0, 0), none, some (.ifCond .ne 8, 74, 0, 79, 0, 0), none, none, some (.aload_n 0, 75, 0, 0, 0, 0), some (.invokevirtual 96, 78, 20, 122, 0, 0), none, none, some (.ireturn, 79, 0, 0, 0, 0), some (.aload_n 0, 80, 0, 0, 0, 0), some (.dup, 81, 0, 0, 0, 0), some (.getfield 87, 84, 0, 7, 8, 0), none, none, some (.iconst 1, 85, 0, 0, 0, 1), some (.iadd, 86, 0, 0, 0, 0), some (.putfield 87, 89, 0, 7, 8, 0), none, none, some (.iload_n 2, 90, 0, 0, 0, 0), some (.ifCond .eq 10, 93, 0, 100, 0, 0), none, none, some (.aload_n 0, 94, 0, 0, 0, 0), some (.getfield 100, 97, 0, 7, 11, 0), none, none, some (.goto 18, 100, 0, 115, 0, 0), none, none, some (.iload_n 3, 101, 0, 0, 0, 0), some (.ifCond .eq 10, 104, 0, 111, 0, 0), none, none, some (.aload_n 0, 105, 0, 0, 0, 0), some (.getfield 103, 108, 0, 7, 12, 0), none, none, some (.goto 7, 111, 0, 115, 0, 0), none, none, some (.aload_n 0, 112, 0, 0, 0, 0), some (.getfield 106, 115, 0, 7, 13, 0), none, none, some (.ireturn, 116, 0, 0, 0, 0)]
set_option maxRecDepth 20000 in
noncomputable def tb_124 : List (Option RI) := [some (.aload_n 0, 1, 0, 0, 0, 0), some (.invokevirtual 127, 4, 20, 127, 0, 0), none, none, some (.istore_n 1, 5, 0, 0, 0, 0), some (.aload_n 0, 6, 0, 0, 0, 0), some (.getfield 83, 9, 0, 7, 14, 0), none, none, some (.ifCond .eq 14, 12, 0, 23, 0, 0), none, none, some (.aload_n 0, 13, 0, 0, 0, 0), some (.aload_n 0, 14, 0, 0, 0, 0), some (.getfield 87, 17, 0, 7, 8, 0), none, none, some (.invokevirtual 90, 20, 20, 119, 1, 0), none, none, some (.goto 4, 23, 0, 24, 0, 0), none, none, some (.iconst (-1), 24, 0, 0, 0, -1), some (.istore_n 2, 25, 0, 0, 0, 0), some (.iload_n 2, 26, 0, 0, 0, 0), some (.bipush 60, 28, 0, 0, 0, 60), none, some (.if_icmp .eq 17, 31, 0, 45, 0, 0), none, none, some (.iload_n 2, 32, 0, 0, 0, 0), some (.bipush 61, 34, 0, 0, 0, 61), none, some (.if_icmp .eq 11, 37, 0, 45, 0, 0), none, none, some (.iload_n 2, 38, 0, 0, 0, 0), some (.bipush 62, 40, 0, 0, 0, 62), none, some (.if_icmp .eq 5, 43, 0, 45, 0, 0), none, none, some (.iload_n 1, 44, 0, 0, 0, 0), some (.ireturn, 45, 0, 0, 0, 0), some (.aload_n 0, 46, 0, 0, 0, 0), some (.dup, 47, 0, 0, 0, 0), some (.getfield 87, 50, 0, 7, 8, 0), none, none, some (.iconst 1, 51, 0, 0, 0, 1), some (.iadd, 52, 0, 0, 0, 0), some (.putfield 87, 55, 0, 7, 8, 0), none, none, some (.aload_n 0, 56, 0, 0, 0, 0), some (.invokevirtual 127, 59, 20, 127, 0, 0), none, none, some (.istore_n 3, 60, 0, 0, 0, 0), some (.iload_n 2, 61, 0, 0, 0, 0), some (.bipush 60, 63, 0, 0, 0, 60), none, some (.if_icmp .ne 16, 66, 0, 79, 0, 0), none, none, some (.iload_n 1, 67, 0, 0, 0, 0), some (.iload_n 3, 68, 0, 0, 0, 0), some (.if_icmp .ge 7, 71, 0, 75, 0, 0), none, none, some (.iconst 1, 72, 0, 0, 0, 1), some (.goto 36, 75, 0, 108, 0, 0), none, none, some (.iconst 0, 76, 0, 0, 0, 0), some (.goto 32, 79, 0, 108, 0, 0), none, none, some (.iload_n 2, 80, 0, 0, 0, 0), some (.bipush 61, 82, 0, 0, 0, 61), none, some (.if_icmp .ne 16, 85, 0, 98, 0, 0), none, none, some (.iload_n 1, 86, 0, 0, 0, 0), some (.iload_n 3, 87, 0, 0, 0, 0), some (.if_icmp .ne 7, 90, 0, 94, 0, 0), none, none, some (.iconst 1, 91, 0, 0, 0, 1), some (.goto 17, 94, 0, 108, 0, 0), none, none, some (.iconst 0, 95, 0, 0, 0, 0), some (.goto 13, 98, 0, 108, 0, 0), none, none, some (.iload_n 1, 99, 0, 0, 0, 0), some (.iload_n 3, 100, 0, 0, 0, 0), some (.if_icmp .le 7, 103, 0, 107, 0, 0), none, none, some (.iconst 1, 104, 0, 0, 0, 1), some (.goto 4, 107, 0, 108, 0, 0), none, none, some (.iconst 0, 108, 0, 0, 0, 0), some (.istore 4, 110, 0, 0, 0, 0), none, some (.iload 4, 112, 0, 0, 0, 0), none, some (.ifCond .eq 7, 115, 0, 119, 0, 0), none, none, some (.iconst 1, 116, 0, 0, 0, 1), some (.goto 4, 119, 0, 120, 0, 0), none, none, some (.iconst 0, 120, 0, 0, 0, 0), some (.ireturn, 121, 0, 0, 0, 0)]
set_option maxRecDepth 20000 in
noncomputable def tb_125 : List (Option RI) := [some (.aload_n 0, 1, 0, 0, 0, 0), some (.aload_n 0, 2, 0, 0, 0, 0), some (.getfield 87, 5, 0, 7, 8, 0), none, none, some (.invokevirtual 90, 8, 20, 119, 1, 0), none, none, some (.istore_n 1, 9, 0, 0, 0, 0), some (.iload_n 1, 10, 0, 0, 0, 0), some (.invokestatic 93, 13, 0, 120, 1, 0), none, none, some (.ifCond .eq 8, 16, 0, 21, 0, 0), none, none, some (.aload_n 0, 17, 0, 0, 0, 0), some (.invokevirtual 109, 20, 20, 121, 0, 0), none, none, some (.ireturn, 21, 0, 0, 0, 0), some (.iload_n 1, 22, 0, 0, 0, 0), some (.bipush 33, 24, 0, 0, 0, 33), none, some (.if_icmp .eq 15, 27, 0, 39, 0, 0), none, none, some (.iload_n 1, 28, 0, 0, 0, 0), some (.bipush 40, 30, 0, 0, 0, 40), none, some (.if_icmp .eq 9, 33, 0, 39, 0, 0), none, none, some (.aload_n 0, 34, 0, 0, 0, 0), some (.iload_n 1, 35, 0, 0, 0, 0), some (.invokevirtual 112, 38, 20, 123, 1, 0), none, none, some (.ireturn, 39, 0, 0, 0, 0), some (.aload_n 0, 40, 0, 0, 0, 0), some (.getfield 115, 43, 0, 7, 10, 0), none, none, some (.iconst 5, 44, 0, 0, 0, 5), some (.if_icmp .ne 8, 47, 0, 52, 0, 0), none, none, some (.aload_n 0, 48, 0, 0, 0, 0), some (.invokevirtual 96, 51, 20, 122, 0, 0), none, none, some (.ireturn, 52, 0, 0, 0, 0), some (.aload_n 0, 53, 0, 0, 0, 0), some (.dup, 54, 0, 0, 0, 0), some (.getfield 115, 57, 0, 7, 10, 0), none, none, some (.iconst 1, 58, 0, 0, 0, 1), some (.iadd, 59, 0, 0, 0, 0), some (.putfield 115, 62, 0, 7, 10, 0), none, none, some (.aload_n 0, 63, 0, 0, 0, 0), some (.dup, 64, 0, 0, 0, 0), some (.getfield 87, 67, 0, 7, 8, 0), none, none, some (.iconst 1, 68, 0, 0, 0, 1), some (.iadd, 69, 0, 0, 0, 0), some (.putfield 87, 72, 0, 7, 8, 0), none, none, some (.iload_n 1, 73, 0, 0, 0, 0), some (.bipush 33, 75, 0, 0, 0, 33), none, some (.if_icmp .ne 10, 78, 0, 85, 0, 0), none, none, some (.aload_n 0, 79, 0, 0, 0, 0), some (.invokevirtual 118, 82, 20, 125, 0, 0), none, none, some (.goto 7, 85, 0, 89, 0, 0), none, none, some (.aload_n 0, 86, 0, 0, 0, 0), some (.invokevirtual 121, 89, 20, 128, 0, 0), none, none, some (.istore_n 2, 90, 0, 0, 0, 0), some (.aload_n 0, 91, 0, 0, 0, 0), some (.dup, 92, 0, 0, 0, 0), some (.getfield 115, 95, 0, 7, 10, 0), none, none, some (.iconst 1, 96, 0, 0, 0, 1), some (.isub, 97, 0, 0, 0, 0), some (.putfield 115, 100, 0, 7, 10, 0), none, none, some (.iload_n 1, 101, 0, 0, 0, 0), some (.bipush 33, 103, 0, 0, 0, 33), none, some (.if_icmp .ne 13, 106, 0, 116, 0, 0), none, none, some (.iload_n 2, 107, 0, 0, 0, 0), some (.ifCond .ne 7, 110, 0, 114, 0, 0), none, none, some (.iconst 1, 111, 0, 0, 0, 1), some (.goto 4, 114, 0, 115, 0, 0), none, none, some (.iconst 0, 115, 0, 0, 0, 0), some (.ireturn, 116, 0, 0, 0, 0), some (.aload_n 0, 117, 0, 0, 0, 0), some (.getfield 83, 120, 0, 7, 14, 0), none, none, some (.ifCond .eq 28, 123, 0, 148, 0, 0), none, none, some (.aload_n 0, 124, 0, 0, 0, 0), some (.aload_n 0, 125, 0, 0, 0, 0), some (.getfield 87, 128, 0, 7, 8, 0), none, none, some (.invokevirtual 90, 131, 20, 119, 1, 0), none, none, some (.bipush 41, 133, 0, 0, 0, 41), none, some (.if_icmp .ne 15, 136, 0, 148, 0, 0), none, none, some (.aload_n 0, 137, 0, 0, 0, 0), some (.dup, 138, 0, 0, 0, 0), some (.getfield 87, 141, 0, 7, 8, 0), none, none, some (.iconst 1, 142, 0, 0, 0, 1), some (.iadd, 143, 0, 0, 0, 0), some (.putfield 87, 146, 0, 7, 8, 0), none, none, some (.iload_n 2, 147, 0, 0, 0, 0), some (.ireturn, 148, 0, 0, 0, 0), some (.aload_n 0, 149, 0, 0, 0, 0), some (.invokevirtual 96, 152, 20, 122, 0, 0), none, none, some (.ireturn, 153, 0, 0, 0, 0)]
set_option maxRecDepth 20000 in
noncomputable def tb_126 : List (Option RI) := [some (.aload_n 0, 1, 0, 0, 0, 0), some (.invokevirtual 118, 4, 20, 125, 0, 0), none, none, some (.istore_n 1, 5, 0, 0, 0, 0), some (.aload_n 0, 6, 0, 0, 0, 0), some (.getfield 83, 9, 0, 7, 14, 0), none, none, some (.ifCond .eq 105, 12, 0, 114, 0, 0), none, none, some (.aload_n 0, 13, 0, 0, 0, 0), some (.aload_n 0, 14, 0, 0, 0, 0), some (.getfield 87, 17, 0, 7, 8, 0), none, none, some (.invokevirtual 90, 20, 20, 119, 1, 0), none, none, some (.bipush 42, 22, 0, 0, 0, 42), none, some (.if_icmp .eq 29, 25, 0, 51, 0, 0), none, none, some (.aload_n 0, 26, 0, 0, 0, 0), some (.aload_n 0, 27, 0, 0, 0, 0), some (.getfield 87, 30, 0, 7, 8, 0), none, none, some (.invokevirtual 90, 33, 20, 119, 1, 0), none, none, some (.bipush 47, 35, 0, 0, 0, 47), none, some (.if_icmp .eq 16, 38, 0, 51, 0, 0), none, none, some (.aload_n 0, 39, 0, 0, 0, 0), some (.aload_n 0, 40, 0, 0, 0, 0), some (.getfield 87, 43, 0, 7, 8, 0), none, none, some (.invokevirtual 90, 46, 20, 119, 1, 0), none, none, some (.bipush 37, 48, 0, 0, 0, 37), none, some (.if_icmp .ne 66, 51, 0, 114, 0, 0), none, none, some (.aload_n 0, 52, 0, 0, 0, 0), some (.aload_n 0, 53, 0, 0, 0, 0), some (.getfield 87, 56, 0, 7, 8, 0), none, none, some (.invokevirtual 90, 59, 20, 119, 1, 0), none, none, some (.istore_n 2, 60, 0, 0, 0, 0), some (.aload_n 0, 61, 0, 0, 0, 0), some (.dup, 62, 0, 0, 0, 0), some (.getfield 87, 65, 0, 7, 8, 0), none, none, some (.iconst 1, 66, 0, 0, 0, 1), some (.iadd, 67, 0, 0, 0, 0), some (.putfield 87, 70, 0, 7, 8, 0), none, none, some (.aload_n 0, 71, 0, 0, 0, 0), some (.invokevirtual 118, 74, 20, 125, 0, 0), none, none, some (.istore_n 3, 75, 0, 0, 0, 0), some (.iload_n 2, 76, 0, 0, 0, 0), some (.bipush 42, 78, 0, 0, 0, 42), none, some (.if_icmp .ne 9, 81, 0, 87, 0, 0), none, none, some (.iload_n 1, 82, 0, 0, 0, 0), some (.iload_n 3, 83, 0, 0, 0, 0), some (.imul, 84, 0, 0, 0, 0), some (.goto 26, 87, 0, 110, 0, 0), none, none, some (.iload_n 3, 88, 0, 0, 0, 0), some (.ifCond .ne 7, 91, 0, 95, 0, 0), none, none, some (.iconst 0, 92, 0, 0, 0, 0), some (.goto 18, 95, 0, 110, 0, 0), none, none, some (.iload_n 2, 96, 0, 0, 0, 0), some (.bipush 47, 98, 0, 0, 0, 47), none, some (.if_icmp .ne 9, 101, 0, 107, 0, 0), none, none, some (.iload_n 1, 102, 0, 0, 0, 0), some (.iload_n 3, 103, 0, 0, 0, 0), some (.idiv, 104, 0, 0, 0, 0), some (.goto 6, 107, 0, 110, 0, 0), none, none, some (.iload_n 1, 108, 0, 0, 0, 0), some (.iload_n 3, 109, 0, 0, 0, 0), some (.irem, 110, 0, 0, 0, 0), some (.istore_n 1, 111, 0, 0, 0, 0), some (.goto (-106), 114, 0, 5, 0, 0), none, none, some (.iload_n 1, 115, 0, 0, 0, 0), some (.ireturn, 116, 0, 0, 0, 0)]
set_option maxRecDepth 20000 in
noncomputable def tb_127 : List (Option RI) := [some (.aload_n 0, 1, 0, 0, 0, 0), some (.invokevirtual 124, 4, 20, 126, 0, 0), none, none, some (.istore_n 1, 5, 0, 0, 0, 0), some (.aload_n 0, 6, 0, 0, 0, 0), some (.getfield 83, 9, 0, 7, 14, 0), none, none, some (.ifCond .eq 72, 12, 0, 81, 0, 0), none, none, some (.aload_n 0, 13, 0, 0, 0, 0), some (.aload_n 0, 14, 0, 0, 0, 0), some (.getfield 87, 17, 0, 7, 8, 0), none, none, some (.invokevirtual 90, 20, 20, 119, 1, 0), none, none, some (.bipush 43, 22, 0, 0, 0, 43), none, some (.if_icmp .eq 16, 25, 0, 38, 0, 0), none, none, some (.aload_n 0, 26, 0, 0, 0, 0), some (.aload_n 0, 27, 0, 0, 0, 0), some (.getfield 87, 30, 0, 7, 8, 0), none, none, some (.invokevirtual 90, 33, 20, 119, 1, 0), none, none, some (.bipush 45, 35, 0, 0, 0, 45), none, some (.if_icmp .ne 46, 38, 0, 81, 0, 0), none, none, some (.aload_n 0, 39, 0, 0, 0, 0), some (.aload_n 0, 40, 0, 0, 0, 0), some (.getfield 87, 43, 0, 7, 8, 0), none, none, some (.invokevirtual 90, 46, 20, 119, 1, 0), none, none, some (.istore_n 2, 47, 0, 0, 0, 0), some (.aload_n 0, 48, 0, 0, 0, 0), some (.dup, 49, 0, 0, 0, 0), some (.getfield 87, 52, 0, 7, 8, 0), none, none, some (.iconst 1, 53, 0, 0, 0, 1), some (.iadd, 54, 0, 0, 0, 0), some (.putfield 87, 57, 0, 7, 8, 0), none, none, some (.aload_n 0, 58, 0, 0, 0, 0), some (.invokevirtual 124, 61, 20, 126, 0, 0), none, none, some (.istore_n 3, 62, 0, 0, 0, 0), some (.iload_n 2, 63, 0, 0, 0, 0), some (.bipush 43, 65, 0, 0, 0, 43), none, some (.if_icmp .ne 9, 68, 0, 74, 0, 0), none, none, some (.iload_n 1, 69, 0, 0, 0, 0), some (.iload_n 3, 70, 0, 0, 0, 0), some (.iadd, 71, 0, 0, 0, 0), some (.goto 6, 74, 0, 77, 0, 0), none, none, some (.iload_n 1, 75, 0, 0, 0, 0), some (.iload_n 3, 76, 0, 0, 0, 0), some (.isub, 77, 0, 0, 0, 0), some (.istore_n 1, 78, 0, 0, 0, 0), some (.goto (-73), 81, 0, 5, 0, 0), none, none, some (.iload_n 1, 82, 0, 0, 0, 0), some (.ireturn, 83, 0, 0, 0, 0)]
set_option maxRecDepth 20000 in
noncomputable def tb_128 : List (Option RI) := [some (.aload_n 0, 1, 0, 0, 0, 0), some (.invokevirtual 133, 4, 20, 129, 0, 0), none, none, some (.istore_n 1, 5, 0, 0, 0, 0), some (.aload_n 0, 6, 0, 0, 0, 0), some (.getfield 83, 9, 0, 7, 14, 0), none, none, some (.ifCond .eq 48, 12, 0, 57, 0, 0), none, none, some (.aload_n 0, 13, 0, 0, 0, 0), some (.aload_n 0, 14, 0, 0, 0, 0), some (.getfield 87, 17, 0, 7, 8, 0), none, none, some (.invokevirtual 90, 20, 20, 119, 1, 0), none, none, some (.bipush 124, 22, 0, 0, 0, 124), none, some (.if_icmp .ne 35, 25, 0, 57, 0, 0), none, none, some (.aload_n 0, 26, 0, 0, 0, 0), some (.dup, 27, 0, 0, 0, 0), some (.getfield 87, 30, 0, 7, 8, 0), none, none, some (.iconst 1, 31, 0, 0, 0, 1), some (.iadd, 32, 0, 0, 0, 0), some (.putfield 87, 35, 0, 7, 8, 0), none, none, some (.aload_n 0, 36, 0, 0, 0, 0), some (.invokevirtual 133, 39, 20, 129, 0, 0), none, none, some (.istore_n 2, 40, 0, 0, 0, 0), some (.iload_n 1, 41, 0, 0, 0, 0), some (.ifCond .ne 7, 44, 0, 48, 0, 0), none, none, some (.iload_n 2, 45, 0, 0, 0, 0), some (.ifCond .eq 7, 48, 0, 52, 0, 0), none, none, some (.iconst 1, 49, 0, 0, 0, 1), some (.goto 4, 52, 0, 53, 0, 0), none, none, some (.iconst 0, 53, 0, 0, 0, 0), some (.istore_n 1, 54, 0, 0, 0, 0), some (.goto (-49), 57, 0, 5, 0, 0), none, none, some (.iload_n 1, 58, 0, 0, 0, 0), some (.ireturn, 59, 0, 0, 0, 0)]
set_option maxRecDepth 20000 in
noncomputable def tb_129 : List (Option RI) := [some (.aload_n 0, 1, 0, 0, 0, 0), some (.invokevirtual 130, 4, 20, 124, 0, 0), none, none, some (.istore_n 1, 5, 0, 0, 0, 0), some (.aload_n 0, 6, 0, 0, 0, 0), some (.getfield 83, 9, 0, 7, 14, 0), none, none, some (.ifCond .eq 48, 12, 0, 57, 0, 0), none, none, some (.aload_n 0, 13, 0, 0, 0, 0), some (.aload_n 0, 14, 0, 0, 0, 0), some (.getfield 87, 17, 0, 7, 8, 0), none, none, some (.invokevirtual 90, 20, 20, 119, 1, 0), none, none, some (.bipush 38, 22, 0, 0, 0, 38), none, some (.if_icmp .ne 35, 25, 0, 57, 0, 0), none, none, some (.aload_n 0, 26, 0, 0, 0, 0), some (.dup, 27, 0, 0, 0, 0), some (.getfield 87, 30, 0, 7, 8, 0), none, none, some (.iconst 1, 31, 0, 0, 0, 1), some (.iadd, 32, 0, 0, 0, 0), some (.putfield 87, 35, 0, 7, 8, 0), none, none, some (.aload_n 0, 36, 0, 0, 0, 0), some (.invokevirtual 130, 39, 20, 124, 0, 0), none, none, some (.istore_n 2, 40, 0, 0, 0, 0), some (.iload_n 1, 41, 0, 0, 0, 0), some (.ifCond .eq 11, 44, 0, 52, 0, 0), none, none, some (.iload_n 2, 45, 0, 0, 0, 0), some (.ifCond .eq 7, 48, 0, 52, 0, 0), none, none, some (.iconst 1, 49, 0, 0, 0, 1), some (.goto 4, 52, 0, 53, 0, 0), none, none, some (.iconst 0, 53, 0, 0, 0, 0), some (.istore_n 1, 54, 0, 0, 0, 0), some (.goto (-49), 57, 0, 5, 0, 0), none, none, some (.iload_n 1, 58, 0, 0, 0, 0), some (.ireturn, 59, 0, 0, 0, 0)]
set_option maxRecDepth 20000 in
noncomputable def tb_130 : List (Option RI) := [some (.aload_n 0, 1, 0, 0, 0, 0), some (.iload_n 1, 2, 0, 0, 0, 0), some (.putfield 80, 5, 0, 7, 7, 0), none, none, some (.aload_n 0, 6, 0, 0, 0, 0), some (.iconst 0, 7, 0, 0, 0, 0), some (.putfield 87, 10, 0, 7, 8, 0), none, none, some (.aload_n 0, 11, 0, 0, 0, 0), some (.aload_n 0, 12, 0, 0, 0, 0), some (.getfield 7, 15, 0, 7, 0, 0), none, none, some (.iconst 5, 16, 0, 0, 0, 5), some (.iload_n 1, 17, 0, 0, 0, 0), some (.iadd, 18, 0, 0, 0, 0), some (.iaload, 19, 0, 0, 0, 0), some (.putfield 76, 22, 0, 7, 9, 0), none, none, some (.aload_n 0, 23, 0, 0, 0, 0), some (.iconst 0, 24, 0, 0, 0, 0), some (.putfield 115, 27, 0, 7, 10, 0), none, none, some (.aload_n 0, 28, 0, 0, 0, 0), some (.iconst 1, 29, 0, 0, 0, 1), some (.putfield 83, 32, 0, 7, 14, 0), none, none, some (.aload_n 0, 33, 0, 0, 0, 0), some (.iload_n 2, 34, 0, 0, 0, 0), some (.putfield 100, 37, 0, 7, 11, 0), none, none, some (.aload_n 0, 38, 0, 0, 0, 0), some (.iload_n 3, 39, 0, 0, 0, 0), some (.putfield 103, 42, 0, 7, 12, 0), none, none, some (.aload_n 0, 43, 0, 0, 0, 0), some (.iload 4, 45, 0, 0, 0, 0), none, some (.putfield 106, 48, 0, 7, 13, 0), none, none, some (.aload_n 0, 49, 0, 0, 0, 0), some (.invokevirtual 121, 52, 20, 128, 0, 0), none, none, some (.istore 5, 54, 0, 0, 0, 0), none, some (.aload_n 0, 55, 0, 0, 0, 0), some (.aload_n 0, 56, 0, 0, 0, 0), some (.getfield 83, 59, 0, 7, 14, 0), none, none, some (.ifCond .eq 18, 62, 0, 77, 0, 0), none, none, some (.aload_n 0, 63, 0, 0, 0, 0), some (.getfield 87, 66, 0, 7, 8, 0), none, none, some (.aload_n 0, 67, 0, 0, 0, 0), some (.getfield 76, 70, 0, 7, 9, 0), none, none, some (.if_icmp .ne 7, 73, 0, 77, 0, 0), none, none, some (.iconst 1, 74, 0, 0, 0, 1), some (.goto 4, 77, 0, 78, 0, 0), none, none, some (.iconst 0, 78, 0, 0, 0, 0), some (.putfield 83, 81, 0, 7, 14, 0), none, none, some (.iload 5, 83, 0, 0, 0, 0), none, some (.ireturn, 84, 0, 0, 0, 0)]
set_option maxRecDepth 20000 in
noncomputable def tb_131 : List (Option RI) := [some (.iload_n 1, 1, 0, 0, 0, 0), some (.ifCond .ne 8, 4, 0, 9, 0, 0), none, none, some (.bipush 99, 6, 0, 0, 0, 99), none, some (.goto 4, 9, 0, 10, 0, 0), none, none, some (.iconst 1, 10, 0, 0, 0, 1), some (.istore 5, 12, 0, 0, 0, 0), none, some (.aload_n 0, 13, 0, 0, 0, 0), some (.getfield 7, 16, 0, 7, 0, 0), none, none, some (.iconst 5, 17, 0, 0, 0, 5), some (.iload_n 1, 18, 0, 0, 0, 0), some (.iadd, 19, 0, 0, 0, 0), some (.iaload, 20, 0, 0, 0, 0), some (.ifCond .lt 19, 23, 0, 39, 0, 0), none, none, some (.aload_n 0, 24, 0, 0, 0, 0), some (.iload_n 1, 25, 0, 0, 0, 0), some (.iload_n 2, 26, 0, 0, 0, 0), some (.iload_n 3, 27, 0, 0, 0, 0), some (.iload 4, 29, 0, 0, 0, 0), none, some (.invokevirtual 136, 32, 20, 130, 4, 0), none, none, some (.iconst 0, 33, 0, 0, 0, 0), some (.iload 5, 35, 0, 0, 0, 0), none, some (.invokestatic 140, 38, 0, 109, 3, 0), none, none, some (.ireturn, 39, 0, 0, 0, 0), some (.iload_n 1, 40, 0, 0, 0, 0), some (.ifCond .ne 21, 43, 0, 61, 0, 0), none, none, some (.iload_n 3, 44, 0, 0, 0, 0), some (.bipush 9, 46, 0, 0, 0, 9), none, some (.iadd, 47, 0, 0, 0, 0), some (.iload_n 2, 48, 0, 0, 0, 0), some (.bipush 9, 50, 0, 0, 0, 9), none, some (.idiv, 51, 0, 0, 0, 0), some (.isub, 52, 0, 0, 0, 0), some (.iconst 0, 53, 0, 0, 0, 0), some (.iload 5, 55, 0, 0, 0, 0), none, some (.invokestatic 140, 58, 0, 109, 3, 0), none, none, some (.goto 4, 61, 0, 62, 0, 0), none, none, some (.iconst 0, 62, 0, 0, 0, 0), some (.ireturn, 63, 0, 0, 0, 0)]
set_option maxRecDepth 20000 in
noncomputable def tb_132 : List (Option RI) := [some (.aload_n 0, 1, 0, 0, 0, 0), some (.iload_n 1, 2, 0, 0, 0, 0), some (.iconst 2, 3, 0, 0, 0, 2), some (.invokevirtual 66, 6, 20, 111, 2, 0), none, none, some (.istore_n 2, 7, 0, 0, 0, 0), some (.aload_n 0, 8, 0, 0, 0, 0), some (.iload_n 1, 9, 0, 0, 0, 0), some (.iconst 3, 10, 0, 0, 0, 3), some (.invokevirtual 66, 13, 20, 111, 2, 0), none, none, some (.istore_n 3, 14, 0, 0, 0, 0), some (.aload_n 0, 15, 0, 0, 0, 0), some (.iconst 0, 16, 0, 0, 0, 0), some (.iload_n 2, 17, 0, 0, 0, 0), some (.aload_n 0, 18, 0, 0, 0, 0), some (.iload_n 1, 19, 0, 0, 0, 0), some (.iconst 4, 20, 0, 0, 0, 4), some (.invokevirtual 66, 23, 20, 111, 2, 0), none, none, some (.aload_n 0, 24, 0, 0, 0, 0), some (.getfield 7, 27, 0, 7, 0, 0), none, none, some (.iconst 0, 28, 0, 0, 0, 0), some (.iaload, 29, 0, 0, 0, 0), some (.bipush 16, 31, 0, 0, 0, 16), none, some (.irem, 32, 0, 0, 0, 0), some (.invokevirtual 144, 35, 20, 131, 4, 0), none, none, some (.istore 4, 37, 0, 0, 0, 0), none, some (.aload_n 0, 38, 0, 0, 0, 0), some (.iload_n 1, 39, 0, 0, 0, 0), some (.iconst 0, 40, 0, 0, 0, 0), some (.invokevirtual 66, 43, 20, 111, 2, 0), none, none, some (.tableswitch 114 1 6 #[37, 64, 94, 49, 71, 103], 80, 0, 0, 0, 0), none, none, none, none, none, none, none, none, none, none, none, none, none, none, none, none, none, none, none, none, none, none, none, none, none, none, none, none, none, none, none, none, none, none, none, none, some (.iload 4, 82, 0, 0, 0, 0), none, some (.iload_n 3, 83, 0, 0, 0, 0), some (.iadd, 84, 0, 0, 0, 0), some (.aload_n 0, 85, 0, 0, 0, 0), some (.iload_n 1, 86, 0, 0, 0, 0), some (.iconst 1, 87, 0, 0, 0, 1), some (.invokevirtual 66, 90, 20, 111, 2, 0), none, none, some (.iadd, 91, 0, 0, 0, 0), some (.ireturn, 92, 0, 0, 0, 0), some (.iload 4, 94, 0, 0, 0, 0), none, some (.iload_n 3, 95, 0, 0, 0, 0), some (.iadd, 96, 0, 0, 0, 0), some (.aload_n 0, 97, 0, 0, 0, 0), some (.iload_n 1, 98, 0, 0, 0, 0), some (.iconst 1, 99, 0, 0, 0, 1), some (.invokevirtual 66, 102, 20, 111, 2, 0), none, none, some (.iadd, 103, 0, 0, 0, 0), some (.bipush 20, 105, 0, 0, 0, 20), none, some (.isub, 106, 0, 0, 0, 0), some (.ireturn, 107, 0, 0, 0, 0), some (.iload 4, 109, 0, 0, 0, 0), none, some (.iconst 2, 110, 0, 0, 0, 2), some (.idiv, 111, 0, 0, 0, 0), some (.iload_n 3, 112, 0, 0, 0, 0), some (.iadd, 113, 0, 0, 0, 0), some (.ireturn, 114, 0, 0, 0, 0), some (.iload 4, 116, 0, 0, 0, 0), none, some (.iconst 2, 117, 0, 0, 0, 2), some (.idiv, 118, 0, 0, 0, 0), some (.iload_n 3, 119, 0, 0, 0, 0), some (.iadd, 120, 0, 0, 0, 0), some (.aload_n 0, 121, 0, 0, 0, 0), some (.iload_n 1, 122, 0, 0, 0, 0), some (.iconst 4, 123, 0, 0, 0, 4), some (.invokevirtual 66, 126, 20, 111, 2, 0), none, none, some (.ifCond .le 8, 129, 0, 134, 0, 0), none, none, some (.bipush 9, 131, 0, 0, 0, 9), none, some (.goto 4, 134, 0, 135, 0, 0), none, none, some (.iconst 0, 135, 0, 0, 0, 0), some (.iadd, 136, 0, 0, 0, 0), some (.ireturn, 137, 0, 0, 0, 0), some (.iload 4, 139, 0, 0, 0, 0), none, some (.iload_n 3, 140, 0, 0, 0, 0), some (.iadd, 141, 0, 0, 0, 0), some (.iload_n 2, 142, 0, 0, 0, 0), some (.iconst 2, 143, 0, 0, 0, 2), some (.idiv, 144, 0, 0, 0, 0), some (.isub, 145, 0, 0, 0, 0), some (.ireturn, 146, 0, 0, 0, 0), some (.iload 4, 148, 0, 0, 0, 0), none, some (.iconst 2, 149, 0, 0, 0, 2), some (.iload_n 3, 150, 0, 0, 0, 0), some (.imul, 151, 0, 0, 0, 0), some (.iadd, 152, 0, 0, 0, 0), some (.iload_n 2, 153, 0, 0, 0, 0), some (.iconst 2, 154, 0, 0, 0, 2), some (.idiv, 155, 0, 0, 0, 0), some (.isub, 156, 0, 0, 0, 0), some (.ireturn, 157, 0, 0, 0, 0), some (.iload 4, 159, 0, 0, 0, 0), none, some (.iload_n 3, 160, 0, 0, 0, 0), some (.iadd, 161, 0, 0, 0, 0), some (.ireturn, 162, 0, 0, 0, 0)]
set_option maxRecDepth 20000 in
noncomputable def tb_133 : List (Option RI) := [some (.aload_n 0, 1, 0, 0, 0, 0), some (.iload_n 1, 2, 0, 0, 0, 0), some (.invokevirtual 62, 5, 20, 113, 1, 0), none, none, some (.ifCond .eq 13, 8, 0, 18, 0, 0), none, none, some (.iload_n 2, 9, 0, 0, 0, 0), some (.iconst 0, 10, 0, 0, 0, 0), some (.bipush 6, 12, 0, 0, 0, 6), none, some (.invokestatic 44, 15, 0, 107, 3, 0), none, none, some (.ifCond .ne 10, 18, 0, 25, 0, 0), none, none, some (.aload_n 0, 19, 0, 0, 0, 0), some (.ldc 52, 21, 0, 0, 0, -1000000001), none, some (.invokevirtual 53, 24, 20, 108, 1, 0), none, none, some (.ireturn, 25, 0, 0, 0, 0), some (.iload_n 2, 26, 0, 0, 0, 0), some (.bipush 6, 28, 0, 0, 0, 6), none, some (.if_icmp .ge 12, 31, 0, 40, 0, 0), none, none, some (.aload_n 0, 32, 0, 0, 0, 0), some (.iload_n 1, 33, 0, 0, 0, 0), some (.iload_n 2, 34, 0, 0, 0, 0), some (.invokevirtual 66, 37, 20, 111, 2, 0), none, none, some (.goto 8, 40, 0, 45, 0, 0), none, none, some (.aload_n 0, 41, 0, 0, 0, 0), some (.iload_n 1, 42, 0, 0, 0, 0), some (.invokevirtual 69, 45, 20, 132, 1, 0), none, none, some (.ireturn, 46, 0, 0, 0, 0)]
set_option maxRecDepth 20000 in
noncomputable def tb_134 : List (Option RI) := [some (.iload_n 2, 1, 0, 0, 0, 0), some (.ifCond .eq 8, 4, 0, 9, 0, 0), none, none, some (.iload_n 2, 5, 0, 0, 0, 0), some (.iconst 2, 6, 0, 0, 0, 2), some (.if_icmp .ne 13, 9, 0, 19, 0, 0), none, none, some (.iload_n 3, 10, 0, 0, 0, 0), some (.iconst 0, 11, 0, 0, 0, 0), some (.bipush 99, 13, 0, 0, 0, 99), none, some (.invokestatic 44, 16, 0, 107, 3, 0), none, none, some (.goto 37, 19, 0, 53, 0, 0), none, none, some (.iload_n 2, 20, 0, 0, 0, 0), some (.iconst 1, 21, 0, 0, 0, 1), some (.if_icmp .ne 13, 24, 0, 34, 0, 0), none, none, some (.iload_n 3, 25, 0, 0, 0, 0), some (.iconst 0, 26, 0, 0, 0, 0), some (.bipush 9, 28, 0, 0, 0, 9), none, some (.invokestatic 44, 31, 0, 107, 3, 0), none, none, some (.goto 22, 34, 0, 53, 0, 0), none, none, some (.iload_n 2, 35, 0, 0, 0, 0), some (.iconst 3, 36, 0, 0, 0, 3), some (.if_icmp .ne 16, 39, 0, 52, 0, 0), none, none, some (.iload_n 3, 40, 0, 0, 0, 0), some (.iconst 0, 41, 0, 0, 0, 0), some (.iconst 1, 42, 0, 0, 0, 1), some (.invokestatic 44, 45, 0, 107, 3, 0), none, none, some (.ifCond .eq 7, 48, 0, 52, 0, 0), none, none, some (.iconst 1, 49, 0, 0, 0, 1), some (.goto 4, 52, 0, 53, 0, 0), none, none, some (.iconst 0, 53, 0, 0, 0, 0), some (.istore 4, 55, 0, 0, 0, 0), none, some (.aload_n 0, 56, 0, 0, 0, 0), some (.iload_n 1, 57, 0, 0, 0, 0), some (.invokevirtual 62, 60, 20, 113, 1, 0), none, none, some (.ifCond .eq 27, 63, 0, 87, 0, 0), none, none, some (.iload 4, 65, 0, 0, 0, 0), none, some (.ifCond .eq 22, 68, 0, 87, 0, 0), none, none, some (.aload_n 0, 69, 0, 0, 0, 0), some (.bipush 16, 71, 0, 0, 0, 16), none, some (.bipush 6, 73, 0, 0, 0, 6), none, some (.iload_n 1, 74, 0, 0, 0, 0), some (.imul, 75, 0, 0, 0, 0), some (.iadd, 76, 0, 0, 0, 0), some (.iconst 2, 77, 0, 0, 0, 2), some (.iadd, 78, 0, 0, 0, 0), some (.iload_n 2, 79, 0, 0, 0, 0), some (.iadd, 80, 0, 0, 0, 0), some (.iload_n 3, 81, 0, 0, 0, 0), some (.invokevirtual 48, 84, 20, 114, 2, 0), none, none, some (.goto 9, 87, 0, 93, 0, 0), none, none, some (.aload_n 0, 88, 0, 0, 0, 0), some (.ldc 52, 90, 0, 0, 0, -1000000001), none, some (.invokevirtual 53, 93, 20, 108, 1, 0), none, none, some (.ireturn, 94, 0, 0, 0, 0)]
set_option maxRecDepth 20000 in
noncomputable def tb_135 : List (Option RI) := [some (.aload_n 0, 1, 0, 0, 0, 0), some (.iload_n 1, 2, 0, 0, 0, 0), some (.invokevirtual 62, 5, 20, 113, 1, 0), none, none, some (.ifCond .eq 13, 8, 0, 18, 0, 0), none, none, some (.iload_n 2, 9, 0, 0, 0, 0), some (.iconst 0, 10, 0, 0, 0, 0), some (.bipush 69, 12, 0, 0, 0, 69), none, some (.invokestatic 44, 15, 0, 107, 3, 0), none, none, some (.ifCond .ne 10, 18, 0, 25, 0, 0), none, none, some (.aload_n 0, 19, 0, 0, 0, 0), some (.ldc 52, 21, 0, 0, 0, -1000000001), none, some (.invokevirtual 53, 24, 20, 108, 1, 0), none, none, some (.ireturn, 25, 0, 0, 0, 0), some (.aload_n 0, 26, 0, 0, 0, 0), some (.iload_n 1, 27, 0, 0, 0, 0), some (.iconst 1, 28, 0, 0, 0, 1), some (.iload_n 2, 29, 0, 0, 0, 0), some (.bipush 10, 31, 0, 0, 0, 10), none, some (.irem, 32, 0, 0, 0, 0), some (.invokevirtual 58, 35, 20, 112, 3, 0), none, none, some (.aload_n 0, 36, 0, 0, 0, 0), some (.bipush 16, 38, 0, 0, 0, 16), none, some (.bipush 6, 40, 0, 0, 0, 6), none, some (.iload_n 1, 41, 0, 0, 0, 0), some (.imul, 42, 0, 0, 0, 0), some (.iadd, 43, 0, 0, 0, 0), some (.iload_n 2, 44, 0, 0, 0, 0), some (.bipush 10, 46, 0, 0, 0, 10), none, some (.idiv, 47, 0, 0, 0, 0), some (.invokevirtual 48, 50, 20, 114, 2, 0), none, none, some (.ireturn, 51, 0, 0, 0, 0)]
set_option maxRecDepth 20000 in
noncomputable def tb_136 : List (Option RI) := [some (.iload_n 0, 1, 0, 0, 0, 0), some (.ifCond .ne 7, 4, 0, 8, 0, 0), none, none, some (.iconst (-1), 5, 0, 0, 0, -1), some (.goto 15, 8, 0, 20, 0, 0), none, none, some (.iload_n 0, 9, 0, 0, 0, 0), some (.iconst 3, 10, 0, 0, 0, 3), some (.if_icmp .le 9, 13, 0, 19, 0, 0), none, none, some (.iload_n 0, 14, 0, 0, 0, 0), some (.iconst 3, 15, 0, 0, 0, 3), some (.isub, 16, 0, 0, 0, 0), some (.goto 4, 19, 0, 20, 0, 0), none, none, some (.iconst 0, 20, 0, 0, 0, 0), some (.ireturn, 21, 0, 0, 0, 0)]
set_option maxRecDepth 20000 in
noncomputable def tb_137 : List (Option RI) := [some (.aload_n 0, 1, 0, 0, 0, 0), some (.iload_n 1, 2, 0, 0, 0, 0), some (.invokevirtual 62, 5, 20, 113, 1, 0), none, none, some (.ifCond .eq 13, 8, 0, 18, 0, 0), none, none, some (.iload_n 2, 9, 0, 0, 0, 0), some (.iconst 0, 10, 0, 0, 0, 0), some (.bipush 6, 12, 0, 0, 0, 6), none, some (.invokestatic 44, 15, 0, 107, 3, 0), none, none, some (.ifCond .ne 10, 18, 0, 25, 0, 0), none, none, some (.aload_n 0, 19, 0, 0, 0, 0), some (.ldc 52, 21, 0, 0, 0, -1000000001), none, some (.invokevirtual 53, 24, 20, 108, 1, 0), none, none, some (.ireturn, 25, 0, 0, 0, 0), some (.aload_n 0, 26, 0, 0, 0, 0), some (.iload_n 1, 27, 0, 0, 0, 0), some (.iconst 0, 28, 0, 0, 0, 0), some (.invokevirtual 66, 31, 20, 111, 2, 0), none, none, some (.istore_n 3, 32, 0, 0, 0, 0), some (.iload_n 3, 33, 0, 0, 0, 0), some (.ifCond .lt 16, 36, 0, 49, 0, 0), none, none, some (.iload_n 3, 37, 0, 0, 0, 0), some (.iload_n 2, 38, 0, 0, 0, 0), some (.if_icmp .eq 11, 41, 0, 49, 0, 0), none, none, some (.iload_n 3, 42, 0, 0, 0, 0), some (.invokestatic 72, 45, 0, 136, 1, 0), none, none, some (.istore_n 3, 46, 0, 0, 0, 0), some (.goto (-14), 49, 0, 32, 0, 0), none, none, some (.iload_n 3, 50, 0, 0, 0, 0), some (.ifCond .ge 12, 53, 0, 62, 0, 0), none, none, some (.aload_n 0, 54, 0, 0, 0, 0), some (.ldc 75, 56, 0, 0, 0, -1000000005), none, some (.invokevirtual 53, 59, 20, 108, 1, 0), none, none, some (.goto 9, 62, 0, 68, 0, 0), none, none, some (.aload_n 0, 63, 0, 0, 0, 0), some (.iload_n 1, 64, 0, 0, 0, 0), some (.iconst 1, 65, 0, 0, 0, 1), some (.invokevirtual 66, 68, 20, 111, 2, 0), none, none, some (.ireturn, 69, 0, 0, 0, 0)]
set_option maxRecDepth 20000 in
noncomputable def tb_138 : List (Option RI) := [some (.iload_n 1, 1, 0, 0, 0, 0), some (.iconst 0, 2, 0, 0, 0, 0), some (.iconst 1, 3, 0, 0, 0, 1), some (.invokestatic 44, 6, 0, 107, 3, 0), none, none, some (.ifCond .eq 15, 9, 0, 21, 0, 0), none, none, some (.aload_n 0, 10, 0, 0, 0, 0), some (.iload_n 1, 11, 0, 0, 0, 0), some (.iload_n 2, 12, 0, 0, 0, 0), some (.iload_n 3, 13, 0, 0, 0, 0), some (.iload 4, 15, 0, 0, 0, 0), none, some (.invokevirtual 144, 18, 20, 131, 4, 0), none, none, some (.goto 9, 21, 0, 27, 0, 0), none, none, some (.aload_n 0, 22, 0, 0, 0, 0), some (.ldc 52, 24, 0, 0, 0, -1000000001), none, some (.invokevirtual 53, 27, 20, 108, 1, 0), none, none, some (.ireturn, 28, 0, 0, 0, 0)]
set_option maxRecDepth 20000 in
noncomputable def tb_139 : List (Option RI) := [some (.iload_n 3, 1, 0, 0, 0, 0), some (.iconst 1, 2, 0, 0, 0, 1), some (.bipush 8, 4, 0, 0, 0, 8), none, some (.invokestatic 44, 7, 0, 107, 3, 0), none, none, some (.ifCond .ne 10, 10, 0, 17, 0, 0), none, none, some (.aload_n 0, 11, 0, 0, 0, 0), some (.ldc 52, 13, 0, 0, 0, -1000000001), none, some (.invokevirtual 53, 16, 20, 108, 1, 0), none, none, some (.ireturn, 17, 0, 0, 0, 0), some (.aload_n 0, 18, 0, 0, 0, 0), some (.getfield 7, 21, 0, 7, 0, 0), none, none, some (.iconst 3, 22, 0, 0, 0, 3), some (.iaload, 23, 0, 0, 0, 0), some (.iload_n 3, 24, 0, 0, 0, 0), some (.iadd, 25, 0, 0, 0, 0), some (.bipush 50, 27, 0, 0, 0, 50), none, some (.if_icmp .le 10, 30, 0, 37, 0, 0), none, none, some (.aload_n 0, 31, 0, 0, 0, 0), some (.ldc 57, 33, 0, 0, 0, -1000000004), none, some (.invokevirtual 53, 36, 20, 108, 1, 0), none, none, some (.ireturn, 37, 0, 0, 0, 0), some (.iconst 0, 38, 0, 0, 0, 0), some (.istore 4, 40, 0, 0, 0, 0), none, some (.iload 4, 42, 0, 0, 0, 0), none, some (.iload_n 3, 43, 0, 0, 0, 0), some (.if_icmp .ge 45, 46, 0, 88, 0, 0), none, none, some (.aload_n 0, 47, 0, 0, 0, 0), some (.getfield 7, 50, 0, 7, 0, 0), none, none, some (.bipush 64, 52, 0, 0, 0, 64), none, some (.aload_n 0, 53, 0, 0, 0, 0), some (.getfield 7, 56, 0, 7, 0, 0), none, none, some (.iconst 3, 57, 0, 0, 0, 3), some (.iaload, 58, 0, 0, 0, 0), some (.iadd, 59, 0, 0, 0, 0), some (.lload_n 1, 60, 0, 0, 0, 0), some (.bipush 8, 62, 0, 0, 0, 8), none, some (.iload 4, 64, 0, 0, 0, 0), none, some (.imul, 65, 0, 0, 0, 0), some (.lshr, 66, 0, 0, 0, 0), some (.ldc2_w 147, 69, 0, 255, 0, 0), none, none, some (.land, 70, 0, 0, 0, 0), some (.l2i, 71, 0, 0, 0, 0), some (.iastore, 72, 0, 0, 0, 0), some (.aload_n 0, 73, 0, 0, 0, 0), some (.getfield 7, 76, 0, 7, 0, 0), none, none, some (.iconst 3, 77, 0, 0, 0, 3), some (.dup2, 78, 0, 0, 0, 0), some (.iaload, 79, 0, 0, 0, 0), some (.iconst 1, 80, 0, 0, 0, 1), some (.iadd, 81, 0, 0, 0, 0), some (.iastore, 82, 0, 0, 0, 0), some (.iinc 4 1, 85, 0, 0, 0, 1), none, none, some (.goto (-45), 88, 0, 40, 0, 0), none, none, some (.aload_n 0, 89, 0, 0, 0, 0), some (.getfield 7, 92, 0, 7, 0, 0), none, none, some (.iconst 3, 93, 0, 0, 0, 3), some (.iaload, 94, 0, 0, 0, 0), some (.ireturn, 95, 0, 0, 0, 0)]
set_option maxRecDepth 20000 in
noncomputable def tb_140 : List (Option RI) := [some (.iload_n 1, 1, 0, 0, 0, 0), some (.iconst 0, 2, 0, 0, 0, 0), some (.iconst 1, 3, 0, 0, 0, 1), some (.invokestatic 44, 6, 0, 107, 3, 0), none, none, some (.ifCond .ne 10, 9, 0, 16, 0, 0), none, none, some (.aload_n 0, 10, 0, 0, 0, 0), some (.ldc 52, 12, 0, 0, 0, -1000000001), none, some (.invokevirtual 53, 15, 20, 108, 1, 0), none, none, some (.ireturn, 16, 0, 0, 0, 0), some (.aload_n 0, 17, 0, 0, 0, 0), some (.aload_n 0, 18, 0, 0, 0, 0), some (.getfield 7, 21, 0, 7, 0, 0), none, none, some (.aload_n 0, 22, 0, 0, 0, 0), some (.getfield 19, 25, 0, 7, 3, 0), none, none, some (.invokevirtual 149, 28, 20, 110, 2, 0), none, none, some (.iconst 0, 29, 0, 0, 0, 0), some (.istore_n 2, 30, 0, 0, 0, 0), some (.iload_n 2, 31, 0, 0, 0, 0), some (.bipush 50, 33, 0, 0, 0, 50), none, some (.if_icmp .ge 33, 36, 0, 66, 0, 0), none, none, some (.aload_n 0, 37, 0, 0, 0, 0), some (.getfield 7, 40, 0, 7, 0, 0), none, none, some (.sipush 134, 43, 0, 0, 0, 134), none, none, some (.bipush 50, 45, 0, 0, 0, 50), none, some (.iload_n 1, 46, 0, 0, 0, 0), some (.imul, 47, 0, 0, 0, 0), some (.iadd, 48, 0, 0, 0, 0), some (.iload_n 2, 49, 0, 0, 0, 0), some (.iadd, 50, 0, 0, 0, 0), some (.aload_n 0, 51, 0, 0, 0, 0), some (.getfield 7, 54, 0, 7, 0, 0), none, none, some (.bipush 64, 56, 0, 0, 0, 64), none, some (.iload_n 2, 57, 0, 0, 0, 0), some (.iadd, 58, 0, 0, 0, 0), some (.iaload, 59, 0, 0, 0, 0), some (.iastore, 60, 0, 0, 0, 0), some (.iinc 2 1, 63, 0, 0, 0, 1), none, none, some (.goto (-33), 66, 0, 30, 0, 0), none, none, some (.aload_n 0, 67, 0, 0, 0, 0), some (.getfield 7, 70, 0, 7, 0, 0), none, none, some (.iconst 5, 71, 0, 0, 0, 5), some (.iload_n 1, 72, 0, 0, 0, 0), some (.iadd, 73, 0, 0, 0, 0), some (.aload_n 0, 74, 0, 0, 0, 0), some (.getfield 7, 77, 0, 7, 0, 0), none, none, some (.iconst 3, 78, 0, 0, 0, 3), some (.iaload, 79, 0, 0, 0, 0), some (.iastore, 80, 0, 0, 0, 0), some (.aload_n 0, 81, 0, 0, 0, 0), some (.iload_n 1, 82, 0, 0, 0, 0), some (.iconst 1, 83, 0, 0, 0, 1), some (.iconst 1, 84, 0, 0, 0, 1), some (.iconst 1, 85, 0, 0, 0, 1), some (.invokevirtual 136, 88, 20, 130, 4, 0), none, none, some (.istore_n 2, 89, 0, 0, 0, 0), some (.aload_n 0, 90, 0, 0, 0, 0), some (.getfield 83, 93, 0, 7, 14, 0), none, none, some (.ifCond .eq 12, 96, 0, 105, 0, 0), none, none, some (.iload_n 2, 97, 0, 0, 0, 0), some (.iload_n 2, 98, 0, 0, 0, 0), some (.if_icmp .ne 7, 101, 0, 105, 0, 0), none, none, some (.iconst 1, 102, 0, 0, 0, 1), some (.goto 4, 105, 0, 106, 0, 0), none, none, some (.iconst 0, 106, 0, 0, 0, 0), some (.istore_n 3, 107, 0, 0, 0, 0), some (.aload_n 0, 108, 0, 0, 0, 0), some (.getfield 87, 111, 0, 7, 8, 0), none, none, some (.istore 4, 113, 0, 0, 0, 0), none, some (.iload_n 3, 114, 0, 0, 0, 0), some (.ifCond .ne 15, 117, 0, 129, 0, 0), none, none, some (.aload_n 0, 118, 0, 0, 0, 0), some (.aload_n 0, 119, 0, 0, 0, 0), some (.getfield 19, 122, 0, 7, 3, 0), none, none, some (.aload_n 0, 123, 0, 0, 0, 0), some (.getfield 7, 126, 0, 7, 0, 0), none, none, some (.invokevirtual 149, 129, 20, 110, 2, 0), none, none, some (.aload_n 0, 130, 0, 0, 0, 0), some (.getfield 7, 133, 0, 7, 0, 0), none, none, some (.iconst 3, 134, 0, 0, 0, 3), some (.iconst 0, 135, 0, 0, 0, 0), some (.iastore, 136, 0, 0, 0, 0), some (.iload_n 3, 137, 0, 0, 0, 0), some (.ifCond .eq 7, 140, 0, 144, 0, 0), none, none, some (.iconst 1, 141, 0, 0, 0, 1), some (.goto 8, 144, 0, 149, 0, 0), none, none, some (.bipush (-10), 146, 0, 0, 0, -10), none, some (.iload 4, 148, 0, 0, 0, 0), none, some (.isub, 149, 0, 0, 0, 0), some (.ireturn, 150, 0, 0, 0, 0)]
set_option maxRecDepth 20000 in
noncomputable def tb_141 : List (Option RI) := [some (.aload_n 0, 1, 0, 0, 0, 0), some (.iload_n 1, 2, 0, 0, 0, 0), some (.iconst 0, 3, 0, 0, 0, 0), some (.invokevirtual 66, 6, 20, 111, 2, 0), none, none, some (.tableswitch 53 1 6 #[38, 40, 42, 38, 40, 42], 44, 0, 0, 0, 0), none, none, none, none, none, none, none, none, none, none, none, none, none, none, none, none, none, none, none, none, none, none, none, none, none, none, none, none, none, none, none, none, none, none, none, none, none, some (.iconst 0, 45, 0, 0, 0, 0), some (.ireturn, 46, 0, 0, 0, 0), some (.iconst 2, 47, 0, 0, 0, 2), some (.ireturn, 48, 0, 0, 0, 0), some (.iconst 1, 49, 0, 0, 0, 1), some (.aload_n 0, 50, 0, 0, 0, 0), some (.iload_n 1, 51, 0, 0, 0, 0), some (.iconst 1, 52, 0, 0, 0, 1), some (.invokevirtual 66, 55, 20, 111, 2, 0), none, none, some (.iconst 3, 56, 0, 0, 0, 3), some (.irem, 57, 0, 0, 0, 0), some (.iadd, 58, 0, 0, 0, 0), some (.ireturn, 59, 0, 0, 0, 0), some (.iconst 1, 60, 0, 0, 0, 1), some (.ireturn, 61, 0, 0, 0, 0)]
set_option maxRecDepth 20000 in
noncomputable def tb_142 : List (Option RI) := [some (.aload_n 0, 1, 0, 0, 0, 0), some (.iload_n 1, 2, 0, 0, 0, 0), some (.invokevirtual 69, 5, 20, 132, 1, 0), none, none, some (.istore_n 2, 6, 0, 0, 0, 0), some (.iconst 0, 7, 0, 0, 0, 0), some (.istore_n 3, 8, 0, 0, 0, 0), some (.iconst 0, 9, 0, 0, 0, 0), some (.istore 4, 11, 0, 0, 0, 0), none, some (.iload 4, 13, 0, 0, 0, 0), none, some (.aload_n 0, 14, 0, 0, 0, 0), some (.getfield 7, 17, 0, 7, 0, 0), none, none, some (.iconst 2, 18, 0, 0, 0, 2), some (.iaload, 19, 0, 0, 0, 0), some (.if_icmp .ge 59, 22, 0, 78, 0, 0), none, none, some (.aload_n 0, 23, 0, 0, 0, 0), some (.iload 4, 25, 0, 0, 0, 0), none, some (.iconst 5, 26, 0, 0, 0, 5), some (.invokevirtual 66, 29, 20, 111, 2, 0), none, none, some (.ifCond .ne 43, 32, 0, 72, 0, 0), none, none, some (.iload 4, 34, 0, 0, 0, 0), none, some (.iload_n 1, 35, 0, 0, 0, 0), some (.if_icmp .eq 37, 38, 0, 72, 0, 0), none, none, some (.aload_n 0, 39, 0, 0, 0, 0), some (.iload 4, 41, 0, 0, 0, 0), none, some (.invokevirtual 69, 44, 20, 132, 1, 0), none, none, some (.istore 5, 46, 0, 0, 0, 0), none, some (.iload_n 3, 47, 0, 0, 0, 0), some (.iload 5, 49, 0, 0, 0, 0), none, some (.iload_n 2, 50, 0, 0, 0, 0), some (.if_icmp .gt 15, 53, 0, 65, 0, 0), none, none, some (.iload 5, 55, 0, 0, 0, 0), none, some (.iload_n 2, 56, 0, 0, 0, 0), some (.if_icmp .ne 13, 59, 0, 69, 0, 0), none, none, some (.iload 4, 61, 0, 0, 0, 0), none, some (.iload_n 1, 62, 0, 0, 0, 0), some (.if_icmp .ge 7, 65, 0, 69, 0, 0), none, none, some (.iconst 1, 66, 0, 0, 0, 1), some (.goto 4, 69, 0, 70, 0, 0), none, none, some (.iconst 0, 70, 0, 0, 0, 0), some (.iadd, 71, 0, 0, 0, 0), some (.istore_n 3, 72, 0, 0, 0, 0), some (.iinc 4 1, 75, 0, 0, 0, 1), none, none, some (.goto (-64), 78, 0, 11, 0, 0), none, none, some (.iload_n 3, 79, 0, 0, 0, 0), some (.ireturn, 80, 0, 0, 0, 0)]
set_option maxRecDepth 20000 in
noncomputable def tb_143 : List (Option RI) := [some (.iconst 0, 1, 0, 0, 0, 0), some (.istore_n 1, 2, 0, 0, 0, 0), some (.iconst 0, 3, 0, 0, 0, 0), some (.istore_n 2, 4, 0, 0, 0, 0), some (.iload_n 2, 5, 0, 0, 0, 0), some (.aload_n 0, 6, 0, 0, 0, 0), some (.getfield 7, 9, 0, 7, 0, 0), none, none, some (.iconst 2, 10, 0, 0, 0, 2), some (.iaload, 11, 0, 0, 0, 0), some (.if_icmp .ge 43, 14, 0, 54, 0, 0), none, none, some (.iload_n 1, 15, 0, 0, 0, 0), some (.aload_n 0, 16, 0, 0, 0, 0), some (.iload_n 2, 17, 0, 0, 0, 0), some (.iconst 5, 18, 0, 0, 0, 5), some (.invokevirtual 66, 21, 20, 111, 2, 0), none, none, some (.ifCond .ne 24, 24, 0, 45, 0, 0), none, none, some (.aload_n 0, 25, 0, 0, 0, 0), some (.iload_n 2, 26, 0, 0, 0, 0), some (.invokevirtual 153, 29, 20, 142, 1, 0), none, none, some (.aload_n 0, 30, 0, 0, 0, 0), some (.getfield 7, 33, 0, 7, 0, 0), none, none, some (.bipush 7, 35, 0, 0, 0, 7), none, some (.iaload, 36, 0, 0, 0, 0), some (.if_icmp .ge 9, 39, 0, 45, 0, 0), none, none, some (.iconst 1, 40, 0, 0, 0, 1), some (.iload_n 2, 41, 0, 0, 0, 0), some (.ishl, 42, 0, 0, 0, 0), some (.goto 4, 45, 0, 46, 0, 0), none, none, some (.iconst 0, 46, 0, 0, 0, 0), some (.ior, 47, 0, 0, 0, 0), some (.istore_n 1, 48, 0, 0, 0, 0), some (.iinc 2 1, 51, 0, 0, 0, 1), none, none, some (.goto (-47), 54, 0, 4, 0, 0), none, none, some (.iload_n 1, 55, 0, 0, 0, 0), some (.ireturn, 56, 0, 0, 0, 0)]
set_option maxRecDepth 20000 in
noncomputable def tb_144 : List (Option RI) := [some (.iload_n 2, 1, 0, 0, 0, 0), some (.ifCond .eq 62, 4, 0, 63, 0, 0), none, none, some (.aload_n 0, 5, 0, 0, 0, 0), some (.iload_n 1, 6, 0, 0, 0, 0), some (.iconst 2, 7, 0, 0, 0, 2), some (.aload_n 0, 8, 0, 0, 0, 0), some (.iload_n 1, 9, 0, 0, 0, 0), some (.iconst 2, 10, 0, 0, 0, 2), some (.invokevirtual 66, 13, 20, 111, 2, 0), none, none, some (.aload_n 0, 14, 0, 0, 0, 0), some (.getfield 7, 17, 0, 7, 0, 0), none, none, some (.bipush 8, 19, 0, 0, 0, 8), none, some (.aload_n 0, 20, 0, 0, 0, 0), some (.iload_n 1, 21, 0, 0, 0, 0), some (.iconst 4, 22, 0, 0, 0, 4), some (.invokevirtual 66, 25, 20, 111, 2, 0), none, none, some (.bipush 8, 27, 0, 0, 0, 8), none, some (.irem, 28, 0, 0, 0, 0), some (.iadd, 29, 0, 0, 0, 0), some (.iaload, 30, 0, 0, 0, 0), some (.isub, 31, 0, 0, 0, 0), some (.iconst 0, 32, 0, 0, 0, 0), some (.bipush 99, 34, 0, 0, 0, 99), none, some (.invokestatic 140, 37, 0, 109, 3, 0), none, none, some (.invokevirtual 58, 40, 20, 112, 3, 0), none, none, some (.aload_n 0, 41, 0, 0, 0, 0), some (.iload_n 1, 42, 0, 0, 0, 0), some (.iconst 4, 43, 0, 0, 0, 4), some (.aload_n 0, 44, 0, 0, 0, 0), some (.iload_n 1, 45, 0, 0, 0, 0), some (.iconst 4, 46, 0, 0, 0, 4), some (.invokevirtual 66, 49, 20, 111, 2, 0), none, none, some (.iconst 1, 50, 0, 0, 0, 1), some (.iadd, 51, 0, 0, 0, 0), some (.iconst 0, 52, 0, 0, 0, 0), some (.bipush 99, 54, 0, 0, 0, 99), none, some (.invokestatic 140, 57, 0, 109, 3, 0), none, none, some (.invokevirtual 58, 60, 20, 112, 3, 0), none, none, some (.goto 27, 63, 0, 87, 0, 0), none, none, some (.aload_n 0, 64, 0, 0, 0, 0), some (.iload_n 1, 65, 0, 0, 0, 0), some (.iconst 2, 66, 0, 0, 0, 2), some (.aload_n 0, 67, 0, 0, 0, 0), some (.iload_n 1, 68, 0, 0, 0, 0), some (.iconst 2, 69, 0, 0, 0, 2), some (.invokevirtual 66, 72, 20, 111, 2, 0), none, none, some (.aload_n 0, 73, 0, 0, 0, 0), some (.iload_n 1, 74, 0, 0, 0, 0), some (.invokevirtual 163, 77, 20, 141, 1, 0), none, none, some (.iadd, 78, 0, 0, 0, 0), some (.iconst 0, 79, 0, 0, 0, 0), some (.bipush 99, 81, 0, 0, 0, 99), none, some (.invokestatic 140, 84, 0, 109, 3, 0), none, none, some (.invokevirtual 58, 87, 20, 112, 3, 0), none, none, some (.aload_n 0, 88, 0, 0, 0, 0), some (.iload_n 1, 89, 0, 0, 0, 0), some (.iconst 5, 90, 0, 0, 0, 5), some (.aload_n 0, 91, 0, 0, 0, 0), some (.iconst 1, 92, 0, 0, 0, 1), some (.aload_n 0, 93, 0, 0, 0, 0), some (.iload_n 1, 94, 0, 0, 0, 0), some (.iconst 2, 95, 0, 0, 0, 2), some (.invokevirtual 66, 98, 20, 111, 2, 0), none, none, some (.aload_n 0, 99, 0, 0, 0, 0), some (.iload_n 1, 100, 0, 0, 0, 0), some (.invokevirtual 69, 103, 20, 132, 1, 0), none, none, some (.aload_n 0, 104, 0, 0, 0, 0), some (.iload_n 1, 105, 0, 0, 0, 0), some (.iconst 4, 106, 0, 0, 0, 4), some (.invokevirtual 66, 109, 20, 111, 2, 0), none, none, some (.invokevirtual 144, 112, 20, 131, 4, 0), none, none, some (.ifCond .eq 7, 115, 0, 119, 0, 0), none, none, some (.iconst 1, 116, 0, 0, 0, 1), some (.goto 4, 119, 0, 120, 0, 0), none, none, some (.iconst 0, 120, 0, 0, 0, 0), some (.invokevirtual 58, 123, 20, 112, 3, 0), none, none, some (.return_, 124, 0, 0, 0, 0)]
set_option maxRecDepth 20000 in
noncomputable def tb_145 : List (Option RI) := [some (.aload_n 0, 1, 0, 0, 0, 0), some (.invokevirtual 156, 4, 20, 143, 0, 0), none, none, some (.istore_n 1, 5, 0, 0, 0, 0), some (.iconst 0, 6, 0, 0, 0, 0), some (.istore_n 2, 7, 0, 0, 0, 0), some (.iload_n 2, 8, 0, 0, 0, 0), some (.aload_n 0, 9, 0, 0, 0, 0), some (.getfield 7, 12, 0, 7, 0, 0), none, none, some (.iconst 2, 13, 0, 0, 0, 2), some (.iaload, 14, 0, 0, 0, 0), some (.if_icmp .ge 37, 17, 0, 51, 0, 0), none, none, some (.aload_n 0, 18, 0, 0, 0, 0), some (.iload_n 2, 19, 0, 0, 0, 0), some (.iconst 5, 20, 0, 0, 0, 5), some (.invokevirtual 66, 23, 20, 111, 2, 0), none, none, some (.ifCond .ne 22, 26, 0, 45, 0, 0), none, none, some (.aload_n 0, 27, 0, 0, 0, 0), some (.iload_n 2, 28, 0, 0, 0, 0), some (.iload_n 1, 29, 0, 0, 0, 0), some (.iload_n 2, 30, 0, 0, 0, 0), some (.ishr, 31, 0, 0, 0, 0), some (.iconst 1, 32, 0, 0, 0, 1), some (.iand, 33, 0, 0, 0, 0), some (.iconst 1, 34, 0, 0, 0, 1), some (.if_icmp .ne 7, 37, 0, 41, 0, 0), none, none, some (.iconst 1, 38, 0, 0, 0, 1), some (.goto 4, 41, 0, 42, 0, 0), none, none, some (.iconst 0, 42, 0, 0, 0, 0), some (.invokevirtual 159, 45, 20, 144, 2, 0), none, none, some (.iinc 2 1, 48, 0, 0, 0, 1), none, none, some (.goto (-41), 51, 0, 7, 0, 0), none, none, some (.aload_n 0, 52, 0, 0, 0, 0), some (.getfield 7, 55, 0, 7, 0, 0), none, none, some (.iconst 0, 56, 0, 0, 0, 0), some (.dup2, 57, 0, 0, 0, 0), some (.iaload, 58, 0, 0, 0, 0), some (.iconst 1, 59, 0, 0, 0, 1), some (.iadd, 60, 0, 0, 0, 0), some (.iastore, 61, 0, 0, 0, 0), some (.return_, 62, 0, 0, 0, 0)]
set_option maxRecDepth 20000 in
noncomputable def tb_146 : List (Option RI) := [some (.iconst 0, 1, 0, 0, 0, 0), some (.istore_n 2, 2, 0, 0, 0, 0), some (.iload_n 2, 3, 0, 0, 0, 0), some (.iload_n 1, 4, 0, 0, 0, 0), some (.if_icmp .ge 13, 7, 0, 17, 0, 0), none, none, some (.aload_n 0, 8, 0, 0, 0, 0), some (.invokevirtual 166, 11, 20, 145, 0, 0), none, none, some (.iinc 2 1, 14, 0, 0, 0, 1), none, none, some (.goto (-12), 17, 0, 2, 0, 0), none, none, some (.return_, 18, 0, 0, 0, 0)]
set_option maxRecDepth 20000 in
noncomputable def tb_147 : List (Option RI) := [some (.iconst 0, 1, 0, 0, 0, 0), some (.istore_n 2, 2, 0, 0, 0, 0), some (.iconst 0, 3, 0, 0, 0, 0), some (.istore_n 3, 4, 0, 0, 0, 0), some (.iload_n 3, 5, 0, 0, 0, 0), some (.aload_n 0, 6, 0, 0, 0, 0), some (.getfield 7, 9, 0, 7, 0, 0), none, none, some (.iconst 2, 10, 0, 0, 0, 2), some (.iaload, 11, 0, 0, 0, 0), some (.if_icmp .ge 18, 14, 0, 29, 0, 0), none, none, some (.iload_n 2, 15, 0, 0, 0, 0), some (.aload_n 0, 16, 0, 0, 0, 0), some (.iload_n 3, 17, 0, 0, 0, 0), some (.iload_n 1, 18, 0, 0, 0, 0), some (.invokevirtual 66, 21, 20, 111, 2, 0), none, none, some (.iadd, 22, 0, 0, 0, 0), some (.istore_n 2, 23, 0, 0, 0, 0), some (.iinc 3 1, 26, 0, 0, 0, 1), none, none, some (.goto (-22), 29, 0, 4, 0, 0), none, none, some (.iload_n 2, 30, 0, 0, 0, 0), some (.ireturn, 31, 0, 0, 0, 0)]
set_option maxRecDepth 20000 in
noncomputable def tb_148 : List (Option RI) := [some (.iload_n 1, 1, 0, 0, 0, 0), some (.iconst 1, 2, 0, 0, 0, 1), some (.bipush 60, 4, 0, 0, 0, 60), none, some (.invokestatic 44, 7, 0, 107, 3, 0), none, none, some (.ifCond .ne 10, 10, 0, 17, 0, 0), none, none, some (.aload_n 0, 11, 0, 0, 0, 0), some (.ldc 52, 13, 0, 0, 0, -1000000001), none, some (.invokevirtual 53, 16, 20, 108, 1, 0), none, none, some (.ireturn, 17, 0, 0, 0, 0), some (.aload_n 0, 18, 0, 0, 0, 0), some (.getfield 7, 21, 0, 7, 0, 0), none, none, some (.iconst 0, 22, 0, 0, 0, 0), some (.iaload, 23, 0, 0, 0, 0), some (.iload_n 1, 24, 0, 0, 0, 0), some (.iadd, 25, 0, 0, 0, 0), some (.sipush 9999, 28, 0, 0, 0, 9999), none, none, some (.if_icmp .le 10, 31, 0, 38, 0, 0), none, none, some (.aload_n 0, 32, 0, 0, 0, 0), some (.ldc 169, 34, 0, 0, 0, -1000000003), none, some (.invokevirtual 53, 37, 20, 108, 1, 0), none, none, some (.ireturn, 38, 0, 0, 0, 0), some (.aload_n 0, 39, 0, 0, 0, 0), some (.iload_n 1, 40, 0, 0, 0, 0), some (.invokevirtual 170, 43, 20, 146, 1, 0), none, none, some (.aload_n 0, 44, 0, 0, 0, 0), some (.iconst 2, 45, 0, 0, 0, 2), some (.invokevirtual 174, 48, 20, 147, 1, 0), none, none, some (.ireturn, 49, 0, 0, 0, 0)]
set_option maxRecDepth 20000 in
noncomputable def tb_149 : List (Option RI) := [some (.aload_n 0, 1, 0, 0, 0, 0), some (.getfield 7, 4, 0, 7, 0, 0), none, none, some (.iconst 1, 5, 0, 0, 0, 1), some (.aload_n 0, 6, 0, 0, 0, 0), some (.getfield 7, 9, 0, 7, 0, 0), none, none, some (.iconst 1, 10, 0, 0, 0, 1), some (.iaload, 11, 0, 0, 0, 0), some (.ldc 177, 13, 0, 0, 0, 1103515245), none, some (.imul, 14, 0, 0, 0, 0), some (.sipush 12345, 17, 0, 0, 0, 12345), none, none, some (.iadd, 18, 0, 0, 0, 0), some (.iastore, 19, 0, 0, 0, 0), some (.aload_n 0, 20, 0, 0, 0, 0), some (.getfield 7, 23, 0, 7, 0, 0), none, none, some (.iconst 1, 24, 0, 0, 0, 1), some (.iaload, 25, 0, 0, 0, 0), some (.bipush 8, 27, 0, 0, 0, 8), none, some (.iushr, 28, 0, 0, 0, 0), some (.ireturn, 29, 0, 0, 0, 0)]
set_option maxRecDepth 20000 in
noncomputable def tb_150 : List (Option RI) := [some (.iload_n 1, 1, 0, 0, 0, 0), some (.iconst 1, 2, 0, 0, 0, 1), some (.bipush 40, 4, 0, 0, 0, 40), none, some (.invokestatic 44, 7, 0, 107, 3, 0), none, none, some (.ifCond .ne 10, 10, 0, 17, 0, 0), none, none, some (.aload_n 0, 11, 0, 0, 0, 0), some (.ldc 52, 13, 0, 0, 0, -1000000001), none, some (.invokevirtual 53, 16, 20, 108, 1, 0), none, none, some (.ireturn, 17, 0, 0, 0, 0), some (.aload_n 0, 18, 0, 0, 0, 0), some (.getfield 7, 21, 0, 7, 0, 0), none, none, some (.iconst 0, 22, 0, 0, 0, 0), some (.iaload, 23, 0, 0, 0, 0), some (.iload_n 1, 24, 0, 0, 0, 0), some (.iadd, 25, 0, 0, 0, 0), some (.sipush 9999, 28, 0, 0, 0, 9999), none, none, some (.if_icmp .le 10, 31, 0, 38, 0, 0), none, none, some (.aload_n 0, 32, 0, 0, 0, 0), some (.ldc 169, 34, 0, 0, 0, -1000000003), none, some (.invokevirtual 53, 37, 20, 108, 1, 0), none, none, some (.ireturn, 38, 0, 0, 0, 0), some (.iconst 0, 39, 0, 0, 0, 0), some (.istore_n 2, 40, 0, 0, 0, 0), some (.iload_n 2, 41, 0, 0, 0, 0), some (.iload_n 1, 42, 0, 0, 0, 0), some (.if_icmp .ge 47, 45, 0, 89, 0, 0), none, none, some (.aload_n 0, 46, 0, 0, 0, 0), some (.invokevirtual 178, 49, 20, 149, 0, 0), none, none, some (.istore_n 3, 50, 0, 0, 0, 0), some (.aload_n 0, 51, 0, 0, 0, 0), some (.getfield 7, 54, 0, 7, 0, 0), none, none, some (.iconst 2, 55, 0, 0, 0, 2), some (.iaload, 56, 0, 0, 0, 0), some (.ifCond .le 23, 59, 0, 79, 0, 0), none, none, some (.aload_n 0, 60, 0, 0, 0, 0), some (.iload_n 3, 61, 0, 0, 0, 0), some (.aload_n 0, 62, 0, 0, 0, 0), some (.getfield 7, 65, 0, 7, 0, 0), none, none, some (.iconst 2, 66, 0, 0, 0, 2), some (.iaload, 67, 0, 0, 0, 0), some (.irem, 68, 0, 0, 0, 0), some (.iconst 3, 69, 0, 0, 0, 3), some (.iload_n 3, 70, 0, 0, 0, 0), some (.bipush 8, 72, 0, 0, 0, 8), none, some (.idiv, 73, 0, 0, 0, 0), some (.bipush 10, 75, 0, 0, 0, 10), none, some (.irem, 76, 0, 0, 0, 0), some (.invokevirtual 58, 79, 20, 112, 3, 0), none, none, some (.aload_n 0, 80, 0, 0, 0, 0), some (.invokevirtual 166, 83, 20, 145, 0, 0), none, none, some (.iinc 2 1, 86, 0, 0, 0, 1), none, none, some (.goto (-46), 89, 0, 40, 0, 0), none, none, some (.aload_n 0, 90, 0, 0, 0, 0), some (.iconst 2, 91, 0, 0, 0, 2), some (.invokevirtual 174, 94, 20, 147, 1, 0), none, none, some (.ireturn, 95, 0, 0, 0, 0)]
set_option maxRecDepth 20000 in
noncomputable def tb_151 : List (Option RI) := [some (.aload_n 0, 1, 0, 0, 0, 0), some (.invokevirtual 156, 4, 20, 143, 0, 0), none, none, some (.ireturn, 5, 0, 0, 0, 0)]
set_option maxRecDepth 20000 in
noncomputable def tb_152 : List (Option RI) := [some (.iload_n 1, 1, 0, 0, 0, 0), some (.iconst 0, 2, 0, 0, 0, 0), some (.bipush 60, 4, 0, 0, 0, 60), none, some (.invokestatic 44, 7, 0, 107, 3, 0), none, none, some (.ifCond .eq 20, 10, 0, 27, 0, 0), none, none, some (.aload_n 0, 11, 0, 0, 0, 0), some (.iload_n 2, 12, 0, 0, 0, 0), some (.invokevirtual 62, 15, 20, 113, 1, 0), none, none, some (.ifCond .eq 12, 18, 0, 27, 0, 0), none, none, some (.iload_n 3, 19, 0, 0, 0, 0), some (.iconst 0, 20, 0, 0, 0, 0), some (.iconst 2, 21, 0, 0, 0, 2), some (.invokestatic 44, 24, 0, 107, 3, 0), none, none, some (.ifCond .ne 10, 27, 0, 34, 0, 0), none, none, some (.aload_n 0, 28, 0, 0, 0, 0), some (.ldc 52, 30, 0, 0, 0, -1000000001), none, some (.invokevirtual 53, 33, 20, 108, 1, 0), none, none, some (.ireturn, 34, 0, 0, 0, 0), some (.aload_n 0, 35, 0, 0, 0, 0), some (.aload_n 0, 36, 0, 0, 0, 0), some (.getfield 7, 39, 0, 7, 0, 0), none, none, some (.aload_n 0, 40, 0, 0, 0, 0), some (.getfield 16, 43, 0, 7, 2, 0), none, none, some (.invokevirtual 149, 46, 20, 110, 2, 0), none, none, some (.aload_n 0, 47, 0, 0, 0, 0), some (.iload_n 1, 48, 0, 0, 0, 0), some (.invokevirtual 170, 51, 20, 146, 1, 0), none, none, some (.aload_n 0, 52, 0, 0, 0, 0), some (.iload_n 2, 53, 0, 0, 0, 0), some (.iload_n 3, 54, 0, 0, 0, 0), some (.ifCond .ne 7, 57, 0, 61, 0, 0), none, none, some (.iconst 2, 58, 0, 0, 0, 2), some (.goto 13, 61, 0, 71, 0, 0), none, none, some (.iload_n 3, 62, 0, 0, 0, 0), some (.iconst 1, 63, 0, 0, 0, 1), some (.if_icmp .ne 7, 66, 0, 70, 0, 0), none, none, some (.iconst 4, 67, 0, 0, 0, 4), some (.goto 4, 70, 0, 71, 0, 0), none, none, some (.iconst 5, 71, 0, 0, 0, 5), some (.invokevirtual 66, 74, 20, 111, 2, 0), none, none, some (.istore 4, 76, 0, 0, 0, 0), none, some (.aload_n 0, 77, 0, 0, 0, 0), some (.aload_n 0, 78, 0, 0, 0, 0), some (.getfield 16, 81, 0, 7, 2, 0), none, none, some (.aload_n 0, 82, 0, 0, 0, 0), some (.getfield 7, 85, 0, 7, 0, 0), none, none, some (.invokevirtual 149, 88, 20, 110, 2, 0), none, none, some (.iload 4, 90, 0, 0, 0, 0), none, some (.ireturn, 91, 0, 0, 0, 0)]
set_option maxRecDepth 20000 in
noncomputable def tb_153 : List (Option RI) := [some (.aload_n 0, 1, 0, 0, 0, 0), some (.iload_n 1, 2, 0, 0, 0, 0), some (.invokevirtual 62, 5, 20, 113, 1, 0), none, none, some (.ifCond .ne 10, 8, 0, 15, 0, 0), none, none, some (.aload_n 0, 9, 0, 0, 0, 0), some (.ldc 52, 11, 0, 0, 0, -1000000001), none, some (.invokevirtual 53, 14, 20, 108, 1, 0), none, none, some (.ireturn, 15, 0, 0, 0, 0), some (.aload_n 0, 16, 0, 0, 0, 0), some (.iload_n 1, 17, 0, 0, 0, 0), some (.iconst 4, 18, 0, 0, 0, 4), some (.invokevirtual 66, 21, 20, 111, 2, 0), none, none, some (.istore_n 2, 22, 0, 0, 0, 0), some (.aload_n 0, 23, 0, 0, 0, 0), some (.aload_n 0, 24, 0, 0, 0, 0), some (.getfield 7, 27, 0, 7, 0, 0), none, none, some (.aload_n 0, 28, 0, 0, 0, 0), some (.getfield 16, 31, 0, 7, 2, 0), none, none, some (.invokevirtual 149, 34, 20, 110, 2, 0), none, none, some (.iconst 0, 35, 0, 0, 0, 0), some (.istore_n 3, 36, 0, 0, 0, 0), some (.iload_n 3, 37, 0, 0, 0, 0), some (.bipush 60, 39, 0, 0, 0, 60), none, some (.if_icmp .gt 23, 42, 0, 62, 0, 0), none, none, some (.aload_n 0, 43, 0, 0, 0, 0), some (.iload_n 1, 44, 0, 0, 0, 0), some (.iconst 4, 45, 0, 0, 0, 4), some (.invokevirtual 66, 48, 20, 111, 2, 0), none, none, some (.iload_n 2, 49, 0, 0, 0, 0), some (.if_icmp .ne 13, 52, 0, 62, 0, 0), none, none, some (.aload_n 0, 53, 0, 0, 0, 0), some (.invokevirtual 166, 56, 20, 145, 0, 0), none, none, some (.iinc 3 1, 59, 0, 0, 0, 1), none, none, some (.goto (-23), 62, 0, 36, 0, 0), none, none, some (.aload_n 0, 63, 0, 0, 0, 0), some (.aload_n 0, 64, 0, 0, 0, 0), some (.getfield 16, 67, 0, 7, 2, 0), none, none, some (.aload_n 0, 68, 0, 0, 0, 0), some (.getfield 7, 71, 0, 7, 0, 0), none, none, some (.invokevirtual 149, 74, 20, 110, 2, 0), none, none, some (.iload_n 3, 75, 0, 0, 0, 0), some (.bipush 60, 77, 0, 0, 0, 60), none, some (.if_icmp .le 12, 80, 0, 89, 0, 0), none, none, some (.aload_n 0, 81, 0, 0, 0, 0), some (.ldc 181, 83, 0, 0, 0, -1000000002), none, some (.invokevirtual 53, 86, 20, 108, 1, 0), none, none, some (.goto 4, 89, 0, 90, 0, 0), none, none, some (.iload_n 3, 90, 0, 0, 0, 0), some (.ireturn, 91, 0, 0, 0, 0)]
set_option maxRecDepth 20000 in
noncomputable def tb_154 : List (Option RI) := [some (.iconst 0, 1, 0, 0, 0, 0), some (.istore_n 2, 2, 0, 0, 0, 0), some (.iconst 0, 3, 0, 0, 0, 0), some (.istore_n 3, 4, 0, 0, 0, 0), some (.iload_n 3, 5, 0, 0, 0, 0), some (.aload_n 0, 6, 0, 0, 0, 0), some (.getfield 7, 9, 0, 7, 0, 0), none, none, some (.iconst 2, 10, 0, 0, 0, 2), some (.iaload, 11, 0, 0, 0, 0), some (.if_icmp .ge 39, 14, 0, 50, 0, 0), none, none, some (.iload_n 2, 15, 0, 0, 0, 0), some (.aload_n 0, 16, 0, 0, 0, 0), some (.iload_n 3, 17, 0, 0, 0, 0), some (.iconst 4, 18, 0, 0, 0, 4), some (.invokevirtual 66, 21, 20, 111, 2, 0), none, none, some (.aload_n 1, 22, 0, 0, 0, 0), some (.bipush 16, 24, 0, 0, 0, 16), none, some (.bipush 6, 26, 0, 0, 0, 6), none, some (.iload_n 3, 27, 0, 0, 0, 0), some (.imul, 28, 0, 0, 0, 0), some (.iadd, 29, 0, 0, 0, 0), some (.iconst 4, 30, 0, 0, 0, 4), some (.iadd, 31, 0, 0, 0, 0), some (.iaload, 32, 0, 0, 0, 0), some (.if_icmp .le 9, 35, 0, 41, 0, 0), none, none, some (.iconst 1, 36, 0, 0, 0, 1), some (.iload_n 3, 37, 0, 0, 0, 0), some (.ishl, 38, 0, 0, 0, 0), some (.goto 4, 41, 0, 42, 0, 0), none, none, some (.iconst 0, 42, 0, 0, 0, 0), some (.ior, 43, 0, 0, 0, 0), some (.istore_n 2, 44, 0, 0, 0, 0), some (.iinc 3 1, 47, 0, 0, 0, 1), none, none, some (.goto (-43), 50, 0, 4, 0, 0), none, none, some (.iload_n 2, 51, 0, 0, 0, 0), some (.ireturn, 52, 0, 0, 0, 0)]
set_option maxRecDepth 20000 in
noncomputable def tb_155 : List (Option RI) := [some (.aload_n 0, 1, 0, 0, 0, 0), some (.aload_n 0, 2, 0, 0, 0, 0), some (.getfield 7, 5, 0, 7, 0, 0), none, none, some (.aload_n 0, 6, 0, 0, 0, 0), some (.getfield 16, 9, 0, 7, 2, 0), none, none, some (.invokevirtual 149, 12, 20, 110, 2, 0), none, none, some (.iconst 0, 13, 0, 0, 0, 0), some (.istore 4, 15, 0, 0, 0, 0), none, some (.iload 4, 17, 0, 0, 0, 0), none, some (.aload_n 0, 18, 0, 0, 0, 0), some (.getfield 7, 21, 0, 7, 0, 0), none, none, some (.iconst 2, 22, 0, 0, 0, 2), some (.iaload, 23, 0, 0, 0, 0), some (.if_icmp .ge 41, 26, 0, 64, 0, 0), none, none, some (.aload_n 0, 27, 0, 0, 0, 0), some (.iload 4, 29, 0, 0, 0, 0), none, some (.iconst 3, 30, 0, 0, 0, 3), some (.iload_n 2, 31, 0, 0, 0, 0), some (.ifCond .lt 17, 34, 0, 48, 0, 0), none, none, some (.iload_n 1, 35, 0, 0, 0, 0), some (.iload 4, 37, 0, 0, 0, 0), none, some (.ishr, 38, 0, 0, 0, 0), some (.iconst 1, 39, 0, 0, 0, 1), some (.iand, 40, 0, 0, 0, 0), some (.iconst 1, 41, 0, 0, 0, 1), some (.if_icmp .ne 7, 44, 0, 48, 0, 0), none, none, some (.iload_n 2, 45, 0, 0, 0, 0), some (.goto 10, 48, 0, 55, 0, 0), none, none, some (.aload_n 0, 49, 0, 0, 0, 0), some (.iload 4, 51, 0, 0, 0, 0), none, some (.iconst 3, 52, 0, 0, 0, 3), some (.invokevirtual 66, 55, 20, 111, 2, 0), none, none, some (.invokevirtual 58, 58, 20, 112, 3, 0), none, none, some (.iinc 4 1, 61, 0, 0, 0, 1), none, none, some (.goto (-46), 64, 0, 15, 0, 0), none, none, some (.aload_n 0, 65, 0, 0, 0, 0), some (.iload_n 3, 66, 0, 0, 0, 0), some (.invokevirtual 170, 69, 20, 146, 1, 0), none, none, some (.aload_n 0, 70, 0, 0, 0, 0), some (.aload_n 0, 71, 0, 0, 0, 0), some (.getfield 16, 74, 0, 7, 2, 0), none, none, some (.invokevirtual 182, 77, 20, 154, 1, 0), none, none, some (.istore 4, 79, 0, 0, 0, 0), none, some (.aload_n 0, 80, 0, 0, 0, 0), some (.aload_n 0, 81, 0, 0, 0, 0), some (.getfield 16, 84, 0, 7, 2, 0), none, none, some (.aload_n 0, 85, 0, 0, 0, 0), some (.getfield 7, 88, 0, 7, 0, 0), none, none, some (.invokevirtual 149, 91, 20, 110, 2, 0), none, none, some (.iload 4, 93, 0, 0, 0, 0), none, some (.ireturn, 94, 0, 0, 0, 0)]
set_option maxRecDepth 20000 in
noncomputable def tb_156 : List (Option RI) := [some (.iconst 1, 1, 0, 0, 0, 1), some (.aload_n 0, 2, 0, 0, 0, 0), some (.getfield 7, 5, 0, 7, 0, 0), none, none, some (.iconst 2, 6, 0, 0, 0, 2), some (.iaload, 7, 0, 0, 0, 0), some (.ishl, 8, 0, 0, 0, 0), some (.iconst 1, 9, 0, 0, 0, 1), some (.isub, 10, 0, 0, 0, 0), some (.aload_n 0, 11, 0, 0, 0, 0), some (.iconst 0, 12, 0, 0, 0, 0), some (.iconst (-1), 13, 0, 0, 0, -1), some (.bipush 60, 15, 0, 0, 0, 60), none, some (.invokevirtual 186, 18, 20, 155, 3, 0), none, none, some (.iconst (-1), 19, 0, 0, 0, -1), some (.ixor, 20, 0, 0, 0, 0), some (.iand, 21, 0, 0, 0, 0), some (.ireturn, 22, 0, 0, 0, 0)]
set_option maxRecDepth 20000 in
noncomputable def tb_157 : List (Option RI) := [some (.iconst 0, 1, 0, 0, 0, 0), some (.istore_n 3, 2, 0, 0, 0, 0), some (.iload_n 3, 3, 0, 0, 0, 0), some (.bipush 9, 5, 0, 0, 0, 9), none, some (.if_icmp .gt 23, 8, 0, 28, 0, 0), none, none, some (.iload_n 1, 9, 0, 0, 0, 0), some (.aload_n 0, 10, 0, 0, 0, 0), some (.iload_n 1, 11, 0, 0, 0, 0), some (.iload_n 3, 12, 0, 0, 0, 0), some (.iload_n 2, 13, 0, 0, 0, 0), some (.invokevirtual 186, 16, 20, 155, 3, 0), none, none, some (.iconst (-1), 17, 0, 0, 0, -1), some (.ixor, 18, 0, 0, 0, 0), some (.iand, 19, 0, 0, 0, 0), some (.ifCond .eq 9, 22, 0, 28, 0, 0), none, none, some (.iinc 3 1, 25, 0, 0, 0, 1), none, none, some (.goto (-23), 28, 0, 2, 0, 0), none, none, some (.iload_n 3, 29, 0, 0, 0, 0), some (.bipush 9, 31, 0, 0, 0, 9), none, some (.if_icmp .le 7, 34, 0, 38, 0, 0), none, none, some (.iconst (-1), 35, 0, 0, 0, -1), some (.goto 4, 38, 0, 39, 0, 0), none, none, some (.iload_n 3, 39, 0, 0, 0, 0), some (.ireturn, 40, 0, 0, 0, 0)]
set_option maxRecDepth 20000 in
noncomputable def tb_158 : List (Option RI) := [some (.aload_n 0, 1, 0, 0, 0, 0), some (.iload_n 1, 2, 0, 0, 0, 0), some (.invokevirtual 62, 5, 20, 113, 1, 0), none, none, some (.ifCond .eq 13, 8, 0, 18, 0, 0), none, none, some (.iload_n 2, 9, 0, 0, 0, 0), some (.iconst 1, 10, 0, 0, 0, 1), some (.bipush 60, 12, 0, 0, 0, 60), none, some (.invokestatic 44, 15, 0, 107, 3, 0), none, none, some (.ifCond .ne 10, 18, 0, 25, 0, 0), none, none, some (.aload_n 0, 19, 0, 0, 0, 0), some (.ldc 52, 21, 0, 0, 0, -1000000001), none, some (.invokevirtual 53, 24, 20, 108, 1, 0), none, none, some (.ireturn, 25, 0, 0, 0, 0), some (.aload_n 0, 26, 0, 0, 0, 0), some (.iconst 1, 27, 0, 0, 0, 1), some (.iload_n 1, 28, 0, 0, 0, 0), some (.ishl, 29, 0, 0, 0, 0), some (.iload_n 2, 30, 0, 0, 0, 0), some (.invokevirtual 189, 33, 20, 157, 2, 0), none, none, some (.istore_n 3, 34, 0, 0, 0, 0), some (.iload_n 3, 35, 0, 0, 0, 0), some (.ifCond .ge 12, 38, 0, 47, 0, 0), none, none, some (.aload_n 0, 39, 0, 0, 0, 0), some (.ldc 181, 41, 0, 0, 0, -1000000002), none, some (.invokevirtual 53, 44, 20, 108, 1, 0), none, none, some (.goto 4, 47, 0, 48, 0, 0), none, none, some (.iload_n 3, 48, 0, 0, 0, 0), some (.ireturn, 49, 0, 0, 0, 0)]
set_option maxRecDepth 20000 in
noncomputable def tb_159 : List (Option RI) := [some (.iload_n 1, 1, 0, 0, 0, 0), some (.iconst 0, 2, 0, 0, 0, 0), some (.iconst 1, 3, 0, 0, 0, 1), some (.aload_n 0, 4, 0, 0, 0, 0), some (.getfield 7, 7, 0, 7, 0, 0), none, none, some (.iconst 2, 8, 0, 0, 0, 2), some (.iaload, 9, 0, 0, 0, 0), some (.ishl, 10, 0, 0, 0, 0), some (.iconst 1, 11, 0, 0, 0, 1), some (.isub, 12, 0, 0, 0, 0), some (.invokestatic 44, 15, 0, 107, 3, 0), none, none, some (.ifCond .eq 13, 18, 0, 28, 0, 0), none, none, some (.iload_n 2, 19, 0, 0, 0, 0), some (.iconst 1, 20, 0, 0, 0, 1), some (.bipush 60, 22, 0, 0, 0, 60), none, some (.invokestatic 44, 25, 0, 107, 3, 0), none, none, some (.ifCond .ne 10, 28, 0, 35, 0, 0), none, none, some (.aload_n 0, 29, 0, 0, 0, 0), some (.ldc 52, 31, 0, 0, 0, -1000000001), none, some (.invokevirtual 53, 34, 20, 108, 1, 0), none, none, some (.ireturn, 35, 0, 0, 0, 0), some (.aload_n 0, 36, 0, 0, 0, 0), some (.iload_n 1, 37, 0, 0, 0, 0), some (.iload_n 2, 38, 0, 0, 0, 0), some (.invokevirtual 189, 41, 20, 157, 2, 0), none, none, some (.istore_n 3, 42, 0, 0, 0, 0), some (.iload_n 3, 43, 0, 0, 0, 0), some (.ifCond .ge 12, 46, 0, 55, 0, 0), none, none, some (.aload_n 0, 47, 0, 0, 0, 0), some (.ldc 181, 49, 0, 0, 0, -1000000002), none, some (.invokevirtual 53, 52, 20, 108, 1, 0), none, none, some (.goto 4, 55, 0, 56, 0, 0), none, none, some (.iload_n 3, 56, 0, 0, 0, 0), some (.ireturn, 57, 0, 0, 0, 0)]
set_option maxRecDepth 20000 in
noncomputable def tb_160 : List (Option RI) := [some (.iload_n 0, 1, 0, 0, 0, 0), some (.iconst 0, 2, 0, 0, 0, 0), some (.iconst 3, 3, 0, 0, 0, 3), some (.invokestatic 44, 6, 0, 107, 3, 0), none, none, some (.ireturn, 7, 0, 0, 0, 0)]
set_option maxRecDepth 20000 in
noncomputable def tb_161 : List (Option RI) := [some (.iconst 0, 1, 0, 0, 0, 0), some (.istore_n 2, 2, 0, 0, 0, 0), some (.aload_n 0, 3, 0, 0, 0, 0), some (.aload_n 0, 4, 0, 0, 0, 0), some (.getfield 7, 7, 0, 7, 0, 0), none, none, some (.aload_n 0, 8, 0, 0, 0, 0), some (.getfield 16, 11, 0, 7, 2, 0), none, none, some (.invokevirtual 149, 14, 20, 110, 2, 0), none, none, some (.iload_n 2, 15, 0, 0, 0, 0), some (.aload_n 0, 16, 0, 0, 0, 0), some (.getfield 28, 19, 0, 7, 16, 0), none, none, some (.iload_n 1, 20, 0, 0, 0, 0), some (.iaload, 21, 0, 0, 0, 0), some (.if_icmp .ge 31, 24, 0, 52, 0, 0), none, none, some (.aload_n 0, 25, 0, 0, 0, 0), some (.invokevirtual 156, 28, 20, 143, 0, 0), none, none, some (.aload_n 0, 29, 0, 0, 0, 0), some (.getfield 31, 32, 0, 7, 17, 0), none, none, some (.bipush 40, 34, 0, 0, 0, 40), none, some (.iload_n 1, 35, 0, 0, 0, 0), some (.imul, 36, 0, 0, 0, 0), some (.iload_n 2, 37, 0, 0, 0, 0), some (.iadd, 38, 0, 0, 0, 0), some (.iaload, 39, 0, 0, 0, 0), some (.if_icmp .ne 13, 42, 0, 52, 0, 0), none, none, some (.aload_n 0, 43, 0, 0, 0, 0), some (.invokevirtual 166, 46, 20, 145, 0, 0), none, none, some (.iinc 2 1, 49, 0, 0, 0, 1), none, none, some (.goto (-35), 52, 0, 14, 0, 0), none, none, some (.aload_n 0, 53, 0, 0, 0, 0), some (.aload_n 0, 54, 0, 0, 0, 0), some (.getfield 16, 57, 0, 7, 2, 0), none, none, some (.aload_n 0, 58, 0, 0, 0, 0), some (.getfield 7, 61, 0, 7, 0, 0), none, none, some (.invokevirtual 149, 64, 20, 110, 2, 0), none, none, some (.iload_n 2, 65, 0, 0, 0, 0), some (.ireturn, 66, 0, 0, 0, 0)]
set_option maxRecDepth 20000 in
noncomputable def tb_162 : List (Option RI) := [some (.iload_n 1, 1, 0, 0, 0, 0), some (.invokestatic 192, 4, 0, 160, 1, 0), none, none, some (.ifCond .eq 12, 7, 0, 16, 0, 0), none, none, some (.iload_n 2, 8, 0, 0, 0, 0), some (.iconst 0, 9, 0, 0, 0, 0), some (.iconst 1, 10, 0, 0, 0, 1), some (.invokestatic 44, 13, 0, 107, 3, 0), none, none, some (.ifCond .ne 10, 16, 0, 23, 0, 0), none, none, some (.aload_n 0, 17, 0, 0, 0, 0), some (.ldc 52, 19, 0, 0, 0, -1000000001), none, some (.invokevirtual 53, 22, 20, 108, 1, 0), none, none, some (.ireturn, 23, 0, 0, 0, 0), some (.aload_n 0, 24, 0, 0, 0, 0), some (.getfield 25, 27, 0, 7, 15, 0), none, none, some (.iload_n 1, 28, 0, 0, 0, 0), some (.iaload, 29, 0, 0, 0, 0), some (.ifCond .ne 10, 32, 0, 39, 0, 0), none, none, some (.aload_n 0, 33, 0, 0, 0, 0), some (.ldc 181, 35, 0, 0, 0, -1000000002), none, some (.invokevirtual 53, 38, 20, 108, 1, 0), none, none, some (.ireturn, 39, 0, 0, 0, 0), some (.iload_n 2, 40, 0, 0, 0, 0), some (.iconst 1, 41, 0, 0, 0, 1), some (.if_icmp .ne 9, 44, 0, 50, 0, 0), none, none, some (.aload_n 0, 45, 0, 0, 0, 0), some (.iload_n 1, 46, 0, 0, 0, 0), some (.invokevirtual 195, 49, 20, 161, 1, 0), none, none, some (.ireturn, 50, 0, 0, 0, 0), some (.aload_n 0, 51, 0, 0, 0, 0), some (.getfield 7, 54, 0, 7, 0, 0), none, none, some (.bipush 7, 56, 0, 0, 0, 7), none, some (.iaload, 57, 0, 0, 0, 0), some (.istore_n 3, 58, 0, 0, 0, 0), some (.iconst 0, 59, 0, 0, 0, 0), some (.istore 4, 61, 0, 0, 0, 0), none, some (.iconst 1, 62, 0, 0, 0, 1), some (.istore 5, 64, 0, 0, 0, 0), none, some (.iload 5, 66, 0, 0, 0, 0), none, some (.iconst 4, 67, 0, 0, 0, 4), some (.if_icmp .gt 45, 70, 0, 112, 0, 0), none, none, some (.aload_n 0, 71, 0, 0, 0, 0), some (.getfield 7, 74, 0, 7, 0, 0), none, none, some (.bipush 7, 76, 0, 0, 0, 7), none, some (.iload 5, 78, 0, 0, 0, 0), none, some (.iastore, 79, 0, 0, 0, 0), some (.iload 4, 81, 0, 0, 0, 0), none, some (.aload_n 0, 82, 0, 0, 0, 0), some (.iload_n 1, 83, 0, 0, 0, 0), some (.invokevirtual 195, 86, 20, 161, 1, 0), none, none, some (.aload_n 0, 87, 0, 0, 0, 0), some (.getfield 28, 90, 0, 7, 16, 0), none, none, some (.iload_n 1, 91, 0, 0, 0, 0), some (.iaload, 92, 0, 0, 0, 0), some (.if_icmp .ne 10, 95, 0, 102, 0, 0), none, none, some (.iconst 1, 96, 0, 0, 0, 1), some (.iload 5, 98, 0, 0, 0, 0), none, some (.ishl, 99, 0, 0, 0, 0), some (.goto 4, 102, 0, 103, 0, 0), none, none, some (.iconst 0, 103, 0, 0, 0, 0), some (.ior, 104, 0, 0, 0, 0), some (.istore 4, 106, 0, 0, 0, 0), none, some (.iinc 5 1, 109, 0, 0, 0, 1), none, none, some (.goto (-45), 112, 0, 64, 0, 0), none, none, some (.aload_n 0, 113, 0, 0, 0, 0), some (.getfield 7, 116, 0, 7, 0, 0), none, none, some (.bipush 7, 118, 0, 0, 0, 7), none, some (.iload_n 3, 119, 0, 0, 0, 0), some (.iastore, 120, 0, 0, 0, 0), some (.iload 4, 122, 0, 0, 0, 0), none, some (.ireturn, 123, 0, 0, 0, 0)]
set_option maxRecDepth 20000 in
noncomputable def tb_163 : List (Option RI) := [some (.aload_n 0, 1, 0, 0, 0, 0), some (.iload_n 1, 2, 0, 0, 0, 0), some (.invokevirtual 62, 5, 20, 113, 1, 0), none, none, some (.ifCond .ne 10, 8, 0, 15, 0, 0), none, none, some (.aload_n 0, 9, 0, 0, 0, 0), some (.ldc 52, 11, 0, 0, 0, -1000000001), none, some (.invokevirtual 53, 14, 20, 108, 1, 0), none, none, some (.ireturn, 15, 0, 0, 0, 0), some (.aload_n 0, 16, 0, 0, 0, 0), some (.iload_n 1, 17, 0, 0, 0, 0), some (.iconst 5, 18, 0, 0, 0, 5), some (.invokevirtual 66, 21, 20, 111, 2, 0), none, none, some (.iconst 1, 22, 0, 0, 0, 1), some (.if_icmp .ne 12, 25, 0, 34, 0, 0), none, none, some (.aload_n 0, 26, 0, 0, 0, 0), some (.ldc 169, 28, 0, 0, 0, -1000000003), none, some (.invokevirtual 53, 31, 20, 108, 1, 0), none, none, some (.goto 8, 34, 0, 39, 0, 0), none, none, some (.aload_n 0, 35, 0, 0, 0, 0), some (.iload_n 1, 36, 0, 0, 0, 0), some (.invokevirtual 153, 39, 20, 142, 1, 0), none, none, some (.ireturn, 40, 0, 0, 0, 0)]
set_option maxRecDepth 20000 in
noncomputable def tb_164 : List (Option RI) := [some (.aload_n 0, 1, 0, 0, 0, 0), some (.iload_n 1, 2, 0, 0, 0, 0), some (.invokevirtual 62, 5, 20, 113, 1, 0), none, none, some (.ifCond .eq 13, 8, 0, 18, 0, 0), none, none, some (.iload_n 2, 9, 0, 0, 0, 0), some (.iconst 0, 10, 0, 0, 0, 0), some (.bipush 60, 12, 0, 0, 0, 60), none, some (.invokestatic 44, 15, 0, 107, 3, 0), none, none, some (.ifCond .ne 10, 18, 0, 25, 0, 0), none, none, some (.aload_n 0, 19, 0, 0, 0, 0), some (.ldc 52, 21, 0, 0, 0, -1000000001), none, some (.invokevirtual 53, 24, 20, 108, 1, 0), none, none, some (.ireturn, 25, 0, 0, 0, 0), some (.aload_n 0, 26, 0, 0, 0, 0), some (.aload_n 0, 27, 0, 0, 0, 0), some (.getfield 7, 30, 0, 7, 0, 0), none, none, some (.aload_n 0, 31, 0, 0, 0, 0), some (.getfield 16, 34, 0, 7, 2, 0), none, none, some (.invokevirtual 149, 37, 20, 110, 2, 0), none, none, some (.aload_n 0, 38, 0, 0, 0, 0), some (.iload_n 2, 39, 0, 0, 0, 0), some (.invokevirtual 170, 42, 20, 146, 1, 0), none, none, some (.iconst 0, 43, 0, 0, 0, 0), some (.istore_n 3, 44, 0, 0, 0, 0), some (.iload_n 3, 45, 0, 0, 0, 0), some (.aload_n 0, 46, 0, 0, 0, 0), some (.getfield 7, 49, 0, 7, 0, 0), none, none, some (.iconst 2, 50, 0, 0, 0, 2), some (.iaload, 51, 0, 0, 0, 0), some (.if_icmp .ge 21, 54, 0, 72, 0, 0), none, none, some (.aload_n 0, 55, 0, 0, 0, 0), some (.getfield 37, 58, 0, 7, 19, 0), none, none, some (.iload_n 3, 59, 0, 0, 0, 0), some (.aload_n 0, 60, 0, 0, 0, 0), some (.iload_n 3, 61, 0, 0, 0, 0), some (.iconst 4, 62, 0, 0, 0, 4), some (.invokevirtual 66, 65, 20, 111, 2, 0), none, none, some (.iastore, 66, 0, 0, 0, 0), some (.iinc 3 1, 69, 0, 0, 0, 1), none, none, some (.goto (-25), 72, 0, 44, 0, 0), none, none, some (.aload_n 0, 73, 0, 0, 0, 0), some (.aload_n 0, 74, 0, 0, 0, 0), some (.getfield 16, 77, 0, 7, 2, 0), none, none, some (.aload_n 0, 78, 0, 0, 0, 0), some (.getfield 7, 81, 0, 7, 0, 0), none, none, some (.invokevirtual 149, 84, 20, 110, 2, 0), none, none, some (.aload_n 0, 85, 0, 0, 0, 0), some (.iload_n 1, 86, 0, 0, 0, 0), some (.iconst 3, 87, 0, 0, 0, 3), some (.iconst 0, 88, 0, 0, 0, 0), some (.invokevirtual 58, 91, 20, 112, 3, 0), none, none, some (.aload_n 0, 92, 0, 0, 0, 0), some (.iload_n 2, 93, 0, 0, 0, 0), some (.invokevirtual 170, 96, 20, 146, 1, 0), none, none, some (.iconst 0, 97, 0, 0, 0, 0), some (.istore_n 3, 98, 0, 0, 0, 0), some (.iconst 0, 99, 0, 0, 0, 0), some (.istore 4, 101, 0, 0, 0, 0), none, some (.iload 4, 103, 0, 0, 0, 0), none, some (.aload_n 0, 104, 0, 0, 0, 0), some (.getfield 7, 107, 0, 7, 0, 0), none, none, some (.iconst 2, 108, 0, 0, 0, 2), some (.iaload, 109, 0, 0, 0, 0), some (.if_icmp .ge 43, 112, 0, 152, 0, 0), none, none, some (.iload_n 3, 113, 0, 0, 0, 0), some (.iload 4, 115, 0, 0, 0, 0), none, some (.iload_n 1, 116, 0, 0, 0, 0), some (.if_icmp .eq 27, 119, 0, 143, 0, 0), none, none, some (.aload_n 0, 120, 0, 0, 0, 0), some (.iload 4, 122, 0, 0, 0, 0), none, some (.iconst 4, 123, 0, 0, 0, 4), some (.invokevirtual 66, 126, 20, 111, 2, 0), none, none, some (.aload_n 0, 127, 0, 0, 0, 0), some (.getfield 37, 130, 0, 7, 19, 0), none, none, some (.iload 4, 132, 0, 0, 0, 0), none, some (.iaload, 133, 0, 0, 0, 0), some (.if_icmp .le 10, 136, 0, 143, 0, 0), none, none, some (.iconst 1, 137, 0, 0, 0, 1), some (.iload 4, 139, 0, 0, 0, 0), none, some (.ishl, 140, 0, 0, 0, 0), some (.goto 4, 143, 0, 144, 0, 0), none, none, some (.iconst 0, 144, 0, 0, 0, 0), some (.ior, 145, 0, 0, 0, 0), some (.istore_n 3, 146, 0, 0, 0, 0), some (.iinc 4 1, 149, 0, 0, 0, 1), none, none, some (.goto (-48), 152, 0, 101, 0, 0), none, none, some (.aload_n 0, 153, 0, 0, 0, 0), some (.aload_n 0, 154, 0, 0, 0, 0), some (.getfield 16, 157, 0, 7, 2, 0), none, none, some (.aload_n 0, 158, 0, 0, 0, 0), some (.getfield 7, 161, 0, 7, 0, 0), none, none, some (.invokevirtual 149, 164, 20, 110, 2, 0), none, none, some (.iload_n 3, 165, 0, 0, 0, 0), some (.ireturn, 166, 0, 0, 0, 0)]
set_option maxRecDepth 20000 in
noncomputable def tb_165 : List (Option RI) := [some (.aload_n 0, 1, 0, 0, 0, 0), some (.iload_n 1, 2, 0, 0, 0, 0), some (.invokevirtual 62, 5, 20, 113, 1, 0), none, none, some (.ifCond .eq 13, 8, 0, 18, 0, 0), none, none, some (.iload_n 2, 9, 0, 0, 0, 0), some (.iconst 0, 10, 0, 0, 0, 0), some (.bipush 60, 12, 0, 0, 0, 60), none, some (.invokestatic 44, 15, 0, 107, 3, 0), none, none, some (.ifCond .ne 10, 18, 0, 25, 0, 0), none, none, some (.aload_n 0, 19, 0, 0, 0, 0), some (.ldc 52, 21, 0, 0, 0, -1000000001), none, some (.invokevirtual 53, 24, 20, 108, 1, 0), none, none, some (.ireturn, 25, 0, 0, 0, 0), some (.iconst 0, 26, 0, 0, 0, 0), some (.istore_n 3, 27, 0, 0, 0, 0), some (.aload_n 0, 28, 0, 0, 0, 0), some (.aload_n 0, 29, 0, 0, 0, 0), some (.getfield 7, 32, 0, 7, 0, 0), none, none, some (.aload_n 0, 33, 0, 0, 0, 0), some (.getfield 16, 36, 0, 7, 2, 0), none, none, some (.invokevirtual 149, 39, 20, 110, 2, 0), none, none, some (.iconst 0, 40, 0, 0, 0, 0), some (.istore 4, 42, 0, 0, 0, 0), none, some (.iload 4, 44, 0, 0, 0, 0), none, some (.iload_n 2, 45, 0, 0, 0, 0), some (.if_icmp .ge 32, 48, 0, 77, 0, 0), none, none, some (.aload_n 0, 49, 0, 0, 0, 0), some (.invokevirtual 166, 52, 20, 145, 0, 0), none, none, some (.iload_n 3, 53, 0, 0, 0, 0), some (.aload_n 0, 54, 0, 0, 0, 0), some (.iload_n 1, 55, 0, 0, 0, 0), some (.iconst 2, 56, 0, 0, 0, 2), some (.invokevirtual 66, 59, 20, 111, 2, 0), none, none, some (.bipush 50, 61, 0, 0, 0, 50), none, some (.if_icmp .lt 7, 64, 0, 68, 0, 0), none, none, some (.iconst 1, 65, 0, 0, 0, 1), some (.goto 4, 68, 0, 69, 0, 0), none, none, some (.iconst 0, 69, 0, 0, 0, 0), some (.iadd, 70, 0, 0, 0, 0), some (.istore_n 3, 71, 0, 0, 0, 0), some (.iinc 4 1, 74, 0, 0, 0, 1), none, none, some (.goto (-32), 77, 0, 42, 0, 0), none, none, some (.aload_n 0, 78, 0, 0, 0, 0), some (.aload_n 0, 79, 0, 0, 0, 0), some (.getfield 16, 82, 0, 7, 2, 0), none, none, some (.aload_n 0, 83, 0, 0, 0, 0), some (.getfield 7, 86, 0, 7, 0, 0), none, none, some (.invokevirtual 149, 89, 20, 110, 2, 0), none, none, some (.iload_n 3, 90, 0, 0, 0, 0), some (.ireturn, 91, 0, 0, 0, 0)]
set_option maxRecDepth 20000 in
noncomputable def tb_166 : List (Option RI) := [some (.iload_n 1, 1, 0, 0, 0, 0), some (.iconst 1, 2, 0, 0, 0, 1), some (.bipush 99, 4, 0, 0, 0, 99), none, some (.invokestatic 44, 7, 0, 107, 3, 0), none, none, some (.ifCond .eq 13, 10, 0, 20, 0, 0), none, none, some (.iload_n 2, 11, 0, 0, 0, 0), some (.iconst 0, 12, 0, 0, 0, 0), some (.bipush 60, 14, 0, 0, 0, 60), none, some (.invokestatic 44, 17, 0, 107, 3, 0), none, none, some (.ifCond .ne 10, 20, 0, 27, 0, 0), none, none, some (.aload_n 0, 21, 0, 0, 0, 0), some (.ldc 52, 23, 0, 0, 0, -1000000001), none, some (.invokevirtual 53, 26, 20, 108, 1, 0), none, none, some (.ireturn, 27, 0, 0, 0, 0), some (.iconst 0, 28, 0, 0, 0, 0), some (.istore_n 3, 29, 0, 0, 0, 0), some (.iconst 0, 30, 0, 0, 0, 0), some (.istore 4, 32, 0, 0, 0, 0), none, some (.aload_n 0, 33, 0, 0, 0, 0), some (.aload_n 0, 34, 0, 0, 0, 0), some (.getfield 7, 37, 0, 7, 0, 0), none, none, some (.aload_n 0, 38, 0, 0, 0, 0), some (.getfield 16, 41, 0, 7, 2, 0), none, none, some (.invokevirtual 149, 44, 20, 110, 2, 0), none, none, some (.iload_n 3, 45, 0, 0, 0, 0), some (.iconst 4, 46, 0, 0, 0, 4), some (.if_icmp .ge 85, 49, 0, 131, 0, 0), none, none, some (.iload 4, 51, 0, 0, 0, 0), none, some (.ifCond .ne 80, 54, 0, 131, 0, 0), none, none, some (.iinc 3 1, 57, 0, 0, 0, 1), none, none, some (.aload_n 0, 58, 0, 0, 0, 0), some (.getfield 7, 61, 0, 7, 0, 0), none, none, some (.bipush 7, 63, 0, 0, 0, 7), none, some (.iload_n 3, 64, 0, 0, 0, 0), some (.iastore, 65, 0, 0, 0, 0), some (.aload_n 0, 66, 0, 0, 0, 0), some (.iload_n 2, 67, 0, 0, 0, 0), some (.invokevirtual 170, 70, 20, 146, 1, 0), none, none, some (.iconst 1, 71, 0, 0, 0, 1), some (.istore 4, 73, 0, 0, 0, 0), none, some (.iconst 0, 74, 0, 0, 0, 0), some (.istore 5, 76, 0, 0, 0, 0), none, some (.iload 5, 78, 0, 0, 0, 0), none, some (.aload_n 0, 79, 0, 0, 0, 0), some (.getfield 7, 82, 0, 7, 0, 0), none, none, some (.iconst 2, 83, 0, 0, 0, 2), some (.iaload, 84, 0, 0, 0, 0), some (.if_icmp .ge 32, 87, 0, 116, 0, 0), none, none, some (.iload 4, 89, 0, 0, 0, 0), none, some (.ifCond .eq 18, 92, 0, 107, 0, 0), none, none, some (.aload_n 0, 93, 0, 0, 0, 0), some (.iload 5, 95, 0, 0, 0, 0), none, some (.iconst 2, 96, 0, 0, 0, 2), some (.invokevirtual 66, 99, 20, 111, 2, 0), none, none, some (.iload_n 1, 100, 0, 0, 0, 0), some (.if_icmp .ge 7, 103, 0, 107, 0, 0), none, none, some (.iconst 1, 104, 0, 0, 0, 1), some (.goto 4, 107, 0, 108, 0, 0), none, none, some (.iconst 0, 108, 0, 0, 0, 0), some (.istore 4, 110, 0, 0, 0, 0), none, some (.iinc 5 1, 113, 0, 0, 0, 1), none, none, some (.goto (-37), 116, 0, 76, 0, 0), none, none, some (.aload_n 0, 117, 0, 0, 0, 0), some (.aload_n 0, 118, 0, 0, 0, 0), some (.getfield 16, 121, 0, 7, 2, 0), none, none, some (.aload_n 0, 122, 0, 0, 0, 0), some (.getfield 7, 125, 0, 7, 0, 0), none, none, some (.invokevirtual 149, 128, 20, 110, 2, 0), none, none, some (.goto (-84), 131, 0, 44, 0, 0), none, none, some (.iload 4, 133, 0, 0, 0, 0), none, some (.ifCond .eq 7, 136, 0, 140, 0, 0), none, none, some (.iload_n 3, 137, 0, 0, 0, 0), some (.goto 9, 140, 0, 146, 0, 0), none, none, some (.aload_n 0, 141, 0, 0, 0, 0), some (.ldc 181, 143, 0, 0, 0, -1000000002), none, some (.invokevirtual 53, 146, 20, 108, 1, 0), none, none, some (.ireturn, 147, 0, 0, 0, 0)]
set_option maxRecDepth 20000 in
noncomputable def tb_167 : List (Option RI) := [some (.iload_n 1, 1, 0, 0, 0, 0), some (.iconst 0, 2, 0, 0, 0, 0), some (.bipush 60, 4, 0, 0, 0, 60), none, some (.invokestatic 44, 7, 0, 107, 3, 0), none, none, some (.ifCond .ne 10, 10, 0, 17, 0, 0), none, none, some (.aload_n 0, 11, 0, 0, 0, 0), some (.ldc 52, 13, 0, 0, 0, -1000000001), none, some (.invokevirtual 53, 16, 20, 108, 1, 0), none, none, some (.ireturn, 17, 0, 0, 0, 0), some (.aload_n 0, 18, 0, 0, 0, 0), some (.iconst 4, 19, 0, 0, 0, 4), some (.invokevirtual 174, 22, 20, 147, 1, 0), none, none, some (.istore_n 2, 23, 0, 0, 0, 0), some (.aload_n 0, 24, 0, 0, 0, 0), some (.aload_n 0, 25, 0, 0, 0, 0), some (.getfield 7, 28, 0, 7, 0, 0), none, none, some (.aload_n 0, 29, 0, 0, 0, 0), some (.getfield 16, 32, 0, 7, 2, 0), none, none, some (.invokevirtual 149, 35, 20, 110, 2, 0), none, none, some (.aload_n 0, 36, 0, 0, 0, 0), some (.iload_n 1, 37, 0, 0, 0, 0), some (.invokevirtual 170, 40, 20, 146, 1, 0), none, none, some (.aload_n 0, 41, 0, 0, 0, 0), some (.iconst 4, 42, 0, 0, 0, 4), some (.invokevirtual 174, 45, 20, 147, 1, 0), none, none, some (.istore_n 3, 46, 0, 0, 0, 0), some (.aload_n 0, 47, 0, 0, 0, 0), some (.aload_n 0, 48, 0, 0, 0, 0), some (.getfield 16, 51, 0, 7, 2, 0), none, none, some (.aload_n 0, 52, 0, 0, 0, 0), some (.getfield 7, 55, 0, 7, 0, 0), none, none, some (.invokevirtual 149, 58, 20, 110, 2, 0), none, none, some (.iload_n 3, 59, 0, 0, 0, 0), some (.iload_n 2, 60, 0, 0, 0, 0), some (.isub, 61, 0, 0, 0, 0), some (.ireturn, 62, 0, 0, 0, 0)]
set_option maxRecDepth 20000 in
noncomputable def tb_168 : List (Option RI) := [some (.iload_n 0, 1, 0, 0, 0, 0), some (.istore_n 2, 2, 0, 0, 0, 0), some (.iload_n 1, 3, 0, 0, 0, 0), some (.istore_n 3, 4, 0, 0, 0, 0), some (.iload_n 3, 5, 0, 0, 0, 0), some (.ifCond .eq 16, 8, 0, 21, 0, 0), none, none, some (.iload_n 2, 9, 0, 0, 0, 0), some (.iload_n 3, 10, 0, 0, 0, 0), some (.irem, 11, 0, 0, 0, 0), some (.istore 4, 13, 0, 0, 0, 0), none, some (.iload_n 3, 14, 0, 0, 0, 0), some (.istore_n 2, 15, 0, 0, 0, 0), some (.iload 4, 17, 0, 0, 0, 0), none, some (.istore_n 3, 18, 0, 0, 0, 0), some (.goto (-14), 21, 0, 4, 0, 0), none, none, some (.iload_n 2, 22, 0, 0, 0, 0), some (.ireturn, 23, 0, 0, 0, 0)]
set_option maxRecDepth 20000 in
noncomputable def tb_169 : List (Option RI) := [some (.aload_n 0, 1, 0, 0, 0, 0), some (.iload_n 1, 2, 0, 0, 0, 0), some (.invokevirtual 62, 5, 20, 113, 1, 0), none, none, some (.ifCond .eq 22, 8, 0, 27, 0, 0), none, none, some (.iload_n 2, 9, 0, 0, 0, 0), some (.iconst 0, 10, 0, 0, 0, 0), some (.bipush 60, 12, 0, 0, 0, 60), none, some (.invokestatic 44, 15, 0, 107, 3, 0), none, none, some (.ifCond .eq 12, 18, 0, 27, 0, 0), none, none, some (.iload_n 3, 19, 0, 0, 0, 0), some (.iconst 0, 20, 0, 0, 0, 0), some (.iconst 1, 21, 0, 0, 0, 1), some (.invokestatic 44, 24, 0, 107, 3, 0), none, none, some (.ifCond .ne 10, 27, 0, 34, 0, 0), none, none, some (.aload_n 0, 28, 0, 0, 0, 0), some (.ldc 52, 30, 0, 0, 0, -1000000001), none, some (.invokevirtual 53, 33, 20, 108, 1, 0), none, none, some (.ireturn, 34, 0, 0, 0, 0), some (.iconst 0, 35, 0, 0, 0, 0), some (.istore 4, 37, 0, 0, 0, 0), none, some (.iconst 0, 38, 0, 0, 0, 0), some (.istore 5, 40, 0, 0, 0, 0), none, some (.iload 5, 42, 0, 0, 0, 0), none, some (.bipush 9, 44, 0, 0, 0, 9), none, some (.if_icmp .gt 28, 47, 0, 72, 0, 0), none, none, some (.iload 4, 49, 0, 0, 0, 0), none, some (.aload_n 0, 50, 0, 0, 0, 0), some (.iconst 1, 51, 0, 0, 0, 1), some (.iload_n 1, 52, 0, 0, 0, 0), some (.ishl, 53, 0, 0, 0, 0), some (.iload 5, 55, 0, 0, 0, 0), none, some (.iload_n 2, 56, 0, 0, 0, 0), some (.invokevirtual 186, 59, 20, 155, 3, 0), none, none, some (.iload_n 1, 60, 0, 0, 0, 0), some (.ishr, 61, 0, 0, 0, 0), some (.iconst 1, 62, 0, 0, 0, 1), some (.iand, 63, 0, 0, 0, 0), some (.iadd, 64, 0, 0, 0, 0), some (.istore 4, 66, 0, 0, 0, 0), none, some (.iinc 5 1, 69, 0, 0, 0, 1), none, none, some (.goto (-29), 72, 0, 40, 0, 0), none, none, some (.iload 4, 74, 0, 0, 0, 0), none, some (.bipush 10, 76, 0, 0, 0, 10), none, some (.invokestatic 198, 79, 0, 168, 2, 0), none, none, some (.istore 5, 81, 0, 0, 0, 0), none, some (.iload_n 3, 82, 0, 0, 0, 0), some (.ifCond .ne 11, 85, 0, 93, 0, 0), none, none, some (.iload 4, 87, 0, 0, 0, 0), none, some (.iload 5, 89, 0, 0, 0, 0), none, some (.idiv, 90, 0, 0, 0, 0), some (.goto 8, 93, 0, 98, 0, 0), none, none, some (.bipush 10, 95, 0, 0, 0, 10), none, some (.iload 5, 97, 0, 0, 0, 0), none, some (.idiv, 98, 0, 0, 0, 0), some (.ireturn, 99, 0, 0, 0, 0)]
set_option maxRecDepth 20000 in
noncomputable def tb_170 : List (Option RI) := [some (.aload_n 0, 1, 0, 0, 0, 0), some (.getfield 7, 4, 0, 7, 0, 0), none, none, some (.iconst 1, 5, 0, 0, 0, 1), some (.iaload, 6, 0, 0, 0, 0), some (.istore_n 2, 7, 0, 0, 0, 0), some (.aload_n 0, 8, 0, 0, 0, 0), some (.getfield 7, 11, 0, 7, 0, 0), none, none, some (.iconst 1, 12, 0, 0, 0, 1), some (.iload_n 1, 13, 0, 0, 0, 0), some (.iastore, 14, 0, 0, 0, 0), some (.iload_n 2, 15, 0, 0, 0, 0), some (.ireturn, 16, 0, 0, 0, 0)]
set_option maxRecDepth 20000 in
noncomputable def tb_171 : List (Option RI) := [some (.aload_n 0, 1, 0, 0, 0, 0), some (.getfield 201, 4, 0, 7, 21, 0), none, none, some (.bipush 40, 6, 0, 0, 0, 40), none, some (.if_icmp .ge 23, 9, 0, 29, 0, 0), none, none, some (.aload_n 0, 10, 0, 0, 0, 0), some (.getfield 40, 13, 0, 7, 20, 0), none, none, some (.aload_n 0, 14, 0, 0, 0, 0), some (.getfield 201, 17, 0, 7, 21, 0), none, none, some (.iload_n 1, 18, 0, 0, 0, 0), some (.iastore, 19, 0, 0, 0, 0), some (.aload_n 0, 20, 0, 0, 0, 0), some (.dup, 21, 0, 0, 0, 0), some (.getfield 201, 24, 0, 7, 21, 0), none, none, some (.iconst 1, 25, 0, 0, 0, 1), some (.iadd, 26, 0, 0, 0, 0), some (.putfield 201, 29, 0, 7, 21, 0), none, none, some (.return_, 30, 0, 0, 0, 0)]
set_option maxRecDepth 20000 in
noncomputable def tb_172 : List (Option RI) := [some (.iload_n 1, 1, 0, 0, 0, 0), some (.ifCond .ne 16, 4, 0, 17, 0, 0), none, none, some (.aload_n 0, 5, 0, 0, 0, 0), some (.bipush 10, 7, 0, 0, 0, 10), none, some (.invokevirtual 204, 10, 20, 171, 1, 0), none, none, some (.iload_n 2, 11, 0, 0, 0, 0), some (.aload_n 0, 12, 0, 0, 0, 0), some (.getfield 207, 15, 0, 7, 23, 0), none, none, some (.iadd, 16, 0, 0, 0, 0), some (.ireturn, 17, 0, 0, 0, 0), some (.iload_n 1, 18, 0, 0, 0, 0), some (.iconst 1, 19, 0, 0, 0, 1), some (.if_icmp .ne 18, 22, 0, 37, 0, 0), none, none, some (.aload_n 0, 23, 0, 0, 0, 0), some (.bipush 20, 25, 0, 0, 0, 20), none, some (.invokevirtual 204, 28, 20, 171, 1, 0), none, none, some (.aload_n 0, 29, 0, 0, 0, 0), some (.iconst 0, 30, 0, 0, 0, 0), some (.iload_n 2, 31, 0, 0, 0, 0), some (.invokevirtual 210, 34, 20, 172, 2, 0), none, none, some (.iconst 3, 35, 0, 0, 0, 3), some (.imul, 36, 0, 0, 0, 0), some (.ireturn, 37, 0, 0, 0, 0), some (.aload_n 0, 38, 0, 0, 0, 0), some (.iload_n 1, 39, 0, 0, 0, 0), some (.invokestatic 72, 42, 0, 136, 1, 0), none, none, some (.iload_n 2, 43, 0, 0, 0, 0), some (.invokevirtual 210, 46, 20, 172, 2, 0), none, none, some (.ireturn, 47, 0, 0, 0, 0)]
set_option maxRecDepth 20000 in
noncomputable def tb_173 : List (Option RI) := [some (.iload_n 1, 1, 0, 0, 0, 0), some (.ifCond .ne 16, 4, 0, 17, 0, 0), none, none, some (.aload_n 0, 5, 0, 0, 0, 0), some (.bipush 12, 7, 0, 0, 0, 12), none, some (.invokevirtual 204, 10, 20, 171, 1, 0), none, none, some (.iload_n 2, 11, 0, 0, 0, 0), some (.aload_n 0, 12, 0, 0, 0, 0), some (.getfield 213, 15, 0, 7, 24, 0), none, none, some (.isub, 16, 0, 0, 0, 0), some (.ireturn, 17, 0, 0, 0, 0), some (.iload_n 1, 18, 0, 0, 0, 0), some (.iconst 3, 19, 0, 0, 0, 3), some (.if_icmp .ne 17, 22, 0, 36, 0, 0), none, none, some (.aload_n 0, 23, 0, 0, 0, 0), some (.bipush 40, 25, 0, 0, 0, 40), none, some (.invokevirtual 204, 28, 20, 171, 1, 0), none, none, some (.aload_n 0, 29, 0, 0, 0, 0), some (.iconst 0, 30, 0, 0, 0, 0), some (.iload_n 2, 31, 0, 0, 0, 0), some (.invokevirtual 216, 34, 20, 173, 2, 0), none, none, some (.ineg, 35, 0, 0, 0, 0), some (.ireturn, 36, 0, 0, 0, 0), some (.iload_n 1, 37, 0, 0, 0, 0), some (.bipush 6, 39, 0, 0, 0, 6), none, some (.if_icmp .ne 21, 42, 0, 60, 0, 0), none, none, some (.aload_n 0, 43, 0, 0, 0, 0), some (.bipush 70, 45, 0, 0, 0, 70), none, some (.invokevirtual 204, 48, 20, 171, 1, 0), none, none, some (.aload_n 0, 49, 0, 0, 0, 0), some (.iconst 3, 50, 0, 0, 0, 3), some (.iload_n 2, 51, 0, 0, 0, 0), some (.invokevirtual 216, 54, 20, 173, 2, 0), none, none, some (.aload_n 0, 55, 0, 0, 0, 0), some (.getfield 207, 58, 0, 7, 23, 0), none, none, some (.ixor, 59, 0, 0, 0, 0), some (.ireturn, 60, 0, 0, 0, 0), some (.aload_n 0, 61, 0, 0, 0, 0), some (.iload_n 1, 62, 0, 0, 0, 0), some (.invokestatic 72, 65, 0, 136, 1, 0), none, none, some (.iload_n 2, 66, 0, 0, 0, 0), some (.invokevirtual 216, 69, 20, 173, 2, 0), none, none, some (.ireturn, 70, 0, 0, 0, 0)]
set_option maxRecDepth 20000 in
noncomputable def tb_174 : List (Option RI) := [some (.iload_n 1, 1, 0, 0, 0, 0), some (.ifCond .ne 21, 4, 0, 22, 0, 0), none, none, some (.aload_n 0, 5, 0, 0, 0, 0), some (.bipush 11, 7, 0, 0, 0, 11), none, some (.invokevirtual 204, 10, 20, 171, 1, 0), none, none, some (.aload_n 0, 11, 0, 0, 0, 0), some (.aload_n 0, 12, 0, 0, 0, 0), some (.getfield 219, 15, 0, 7, 22, 0), none, none, some (.iload_n 2, 16, 0, 0, 0, 0), some (.invokevirtual 210, 19, 20, 172, 2, 0), none, none, some (.iconst 2, 20, 0, 0, 0, 2), some (.imul, 21, 0, 0, 0, 0), some (.ireturn, 22, 0, 0, 0, 0), some (.iload_n 1, 23, 0, 0, 0, 0), some (.iconst 2, 24, 0, 0, 0, 2), some (.if_icmp .ne 28, 27, 0, 52, 0, 0), none, none, some (.aload_n 0, 28, 0, 0, 0, 0), some (.bipush 30, 30, 0, 0, 0, 30), none, some (.invokevirtual 204, 33, 20, 171, 1, 0), none, none, some (.aload_n 0, 34, 0, 0, 0, 0), some (.iconst 0, 35, 0, 0, 0, 0), some (.iload_n 2, 36, 0, 0, 0, 0), some (.invokevirtual 222, 39, 20, 174, 2, 0), none, none, some (.istore_n 3, 40, 0, 0, 0, 0), some (.iload_n 3, 41, 0, 0, 0, 0), some (.aload_n 0, 42, 0, 0, 0, 0), some (.aload_n 0, 43, 0, 0, 0, 0), some (.getfield 219, 46, 0, 7, 22, 0), none, none, some (.iconst 1, 47, 0, 0, 0, 1), some (.invokevirtual 216, 50, 20, 173, 2, 0), none, none, some (.isub, 51, 0, 0, 0, 0), some (.ireturn, 52, 0, 0, 0, 0), some (.iload_n 1, 53, 0, 0, 0, 0), some (.iconst 5, 54, 0, 0, 0, 5), some (.if_icmp .ne 18, 57, 0, 72, 0, 0), none, none, some (.aload_n 0, 58, 0, 0, 0, 0), some (.bipush 60, 60, 0, 0, 0, 60), none, some (.invokevirtual 204, 63, 20, 171, 1, 0), none, none, some (.aload_n 0, 64, 0, 0, 0, 0), some (.iconst 2, 65, 0, 0, 0, 2), some (.iload_n 2, 66, 0, 0, 0, 0), some (.iconst 1, 67, 0, 0, 0, 1), some (.iadd, 68, 0, 0, 0, 0), some (.invokevirtual 222, 71, 20, 174, 2, 0), none, none, some (.ireturn, 72, 0, 0, 0, 0), some (.aload_n 0, 73, 0, 0, 0, 0), some (.iload_n 1, 74, 0, 0, 0, 0), some (.invokestatic 72, 77, 0, 136, 1, 0), none, none, some (.iload_n 2, 78, 0, 0, 0, 0), some (.invokevirtual 222, 81, 20, 174, 2, 0), none, none, some (.ireturn, 82, 0, 0, 0, 0)]
set_option maxRecDepth 20000 in
noncomputable def tb_175 : List (Option RI) := [some (.iload_n 1, 1, 0, 0, 0, 0), some (.ifCond .ne 31, 4, 0, 32, 0, 0), none, none, some (.aload_n 0, 5, 0, 0, 0, 0), some (.bipush 13, 7, 0, 0, 0, 13), none, some (.invokevirtual 204, 10, 20, 171, 1, 0), none, none, some (.aload_n 0, 11, 0, 0, 0, 0), some (.aload_n 0, 12, 0, 0, 0, 0), some (.getfield 219, 15, 0, 7, 22, 0), none, none, some (.iload_n 2, 16, 0, 0, 0, 0), some (.invokevirtual 222, 19, 20, 174, 2, 0), none, none, some (.istore_n 3, 20, 0, 0, 0, 0), some (.iload_n 3, 21, 0, 0, 0, 0), some (.aload_n 0, 22, 0, 0, 0, 0), some (.aload_n 0, 23, 0, 0, 0, 0), some (.getfield 219, 26, 0, 7, 22, 0), none, none, some (.iload_n 2, 27, 0, 0, 0, 0), some (.invokevirtual 216, 30, 20, 173, 2, 0), none, none, some (.ixor, 31, 0, 0, 0, 0), some (.ireturn, 32, 0, 0, 0, 0), some (.iload_n 1, 33, 0, 0, 0, 0), some (.iconst 4, 34, 0, 0, 0, 4), some (.if_icmp .ne 28, 37, 0, 62, 0, 0), none, none, some (.aload_n 0, 38, 0, 0, 0, 0), some (.bipush 50, 40, 0, 0, 0, 50), none, some (.invokevirtual 204, 43, 20, 171, 1, 0), none, none, some (.aload_n 0, 44, 0, 0, 0, 0), some (.iconst 1, 45, 0, 0, 0, 1), some (.iload_n 2, 46, 0, 0, 0, 0), some (.invokevirtual 225, 49, 20, 175, 2, 0), none, none, some (.istore_n 3, 50, 0, 0, 0, 0), some (.iload_n 3, 51, 0, 0, 0, 0), some (.aload_n 0, 52, 0, 0, 0, 0), some (.aload_n 0, 53, 0, 0, 0, 0), some (.getfield 219, 56, 0, 7, 22, 0), none, none, some (.iconst 2, 57, 0, 0, 0, 2), some (.invokevirtual 210, 60, 20, 172, 2, 0), none, none, some (.isub, 61, 0, 0, 0, 0), some (.ireturn, 62, 0, 0, 0, 0), some (.iload_n 1, 63, 0, 0, 0, 0), some (.bipush 6, 65, 0, 0, 0, 6), none, some (.if_icmp .ne 28, 68, 0, 93, 0, 0), none, none, some (.aload_n 0, 69, 0, 0, 0, 0), some (.bipush 71, 71, 0, 0, 0, 71), none, some (.invokevirtual 204, 74, 20, 171, 1, 0), none, none, some (.aload_n 0, 75, 0, 0, 0, 0), some (.aload_n 0, 76, 0, 0, 0, 0), some (.getfield 219, 79, 0, 7, 22, 0), none, none, some (.iload_n 2, 80, 0, 0, 0, 0), some (.invokevirtual 222, 83, 20, 174, 2, 0), none, none, some (.istore_n 3, 84, 0, 0, 0, 0), some (.iload_n 3, 85, 0, 0, 0, 0), some (.aload_n 0, 86, 0, 0, 0, 0), some (.iconst 3, 87, 0, 0, 0, 3), some (.iload_n 2, 88, 0, 0, 0, 0), some (.invokevirtual 225, 91, 20, 175, 2, 0), none, none, some (.isub, 92, 0, 0, 0, 0), some (.ireturn, 93, 0, 0, 0, 0), some (.aload_n 0, 94, 0, 0, 0, 0), some (.iload_n 1, 95, 0, 0, 0, 0), some (.invokestatic 72, 98, 0, 136, 1, 0), none, none, some (.iload_n 2, 99, 0, 0, 0, 0), some (.invokevirtual 225, 102, 20, 175, 2, 0), none, none, some (.ireturn, 103, 0, 0, 0, 0)]
set_option maxRecDepth 20000 in
noncomputable def tb_176 : List (Option RI) := [some (.aload_n 0, 1, 0, 0, 0, 0), some (.iload_n 1, 2, 0, 0, 0, 0), some (.invokevirtual 62, 5, 20, 113, 1, 0), none, none, some (.ifCond .eq 12, 8, 0, 17, 0, 0), none, none, some (.iload_n 2, 9, 0, 0, 0, 0), some (.iconst 0, 10, 0, 0, 0, 0), some (.iconst 3, 11, 0, 0, 0, 3), some (.invokestatic 44, 14, 0, 107, 3, 0), none, none, some (.ifCond .ne 10, 17, 0, 24, 0, 0), none, none, some (.aload_n 0, 18, 0, 0, 0, 0), some (.ldc 52, 20, 0, 0, 0, -1000000001), none, some (.invokevirtual 53, 23, 20, 108, 1, 0), none, none, some (.ireturn, 24, 0, 0, 0, 0), some (.aload_n 0, 25, 0, 0, 0, 0), some (.iconst 0, 26, 0, 0, 0, 0), some (.putfield 201, 29, 0, 7, 21, 0), none, none, some (.aload_n 0, 30, 0, 0, 0, 0), some (.aload_n 0, 31, 0, 0, 0, 0), some (.iload_n 1, 32, 0, 0, 0, 0), some (.iconst 0, 33, 0, 0, 0, 0), some (.invokevirtual 66, 36, 20, 111, 2, 0), none, none, some (.putfield 219, 39, 0, 7, 22, 0), none, none, some (.aload_n 0, 40, 0, 0, 0, 0), some (.iload_n 1, 41, 0, 0, 0, 0), some (.putfield 207, 44, 0, 7, 23, 0), none, none, some (.aload_n 0, 45, 0, 0, 0, 0), some (.aload_n 0, 46, 0, 0, 0, 0), some (.iload_n 1, 47, 0, 0, 0, 0), some (.iconst 1, 48, 0, 0, 0, 1), some (.invokevirtual 66, 51, 20, 111, 2, 0), none, none, some (.putfield 213, 54, 0, 7, 24, 0), none, none, some (.iload_n 2, 55, 0, 0, 0, 0), some (.tableswitch 55 0 2 #[25, 35, 45], 80, 0, 0, 0, 0), none, none, none, none, none, none, none, none, none, none, none, none, none, none, none, none, none, none, none, none, none, none, none, none, some (.aload_n 0, 81, 0, 0, 0, 0), some (.aload_n 0, 82, 0, 0, 0, 0), some (.getfield 219, 85, 0, 7, 22, 0), none, none, some (.iload_n 3, 86, 0, 0, 0, 0), some (.invokevirtual 210, 89, 20, 172, 2, 0), none, none, some (.ireturn, 90, 0, 0, 0, 0), some (.aload_n 0, 91, 0, 0, 0, 0), some (.aload_n 0, 92, 0, 0, 0, 0), some (.getfield 219, 95, 0, 7, 22, 0), none, none, some (.iload_n 3, 96, 0, 0, 0, 0), some (.invokevirtual 222, 99, 20, 174, 2, 0), none, none, some (.ireturn, 100, 0, 0, 0, 0), some (.aload_n 0, 101, 0, 0, 0, 0), some (.aload_n 0, 102, 0, 0, 0, 0), some (.getfield 219, 105, 0, 7, 22, 0), none, none, some (.iload_n 3, 106, 0, 0, 0, 0), some (.invokevirtual 216, 109, 20, 173, 2, 0), none, none, some (.ireturn, 110, 0, 0, 0, 0), some (.aload_n 0, 111, 0, 0, 0, 0), some (.aload_n 0, 112, 0, 0, 0, 0), some (.getfield 219, 115, 0, 7, 22, 0), none, none, some (.iload_n 3, 116, 0, 0, 0, 0), some (.invokevirtual 225, 119, 20, 175, 2, 0), none, none, some (.ireturn, 120, 0, 0, 0, 0)]
set_option maxRecDepth 20000 in
noncomputable def tb_177 : List (Option RI) := [some (.iload_n 1, 1, 0, 0, 0, 0), some (.iconst 0, 2, 0, 0, 0, 0), some (.aload_n 0, 3, 0, 0, 0, 0), some (.getfield 201, 6, 0, 7, 21, 0), none, none, some (.iconst 1, 7, 0, 0, 0, 1), some (.isub, 8, 0, 0, 0, 0), some (.invokestatic 44, 11, 0, 107, 3, 0), none, none, some (.ifCond .eq 12, 14, 0, 23, 0, 0), none, none, some (.aload_n 0, 15, 0, 0, 0, 0), some (.getfield 40, 18, 0, 7, 20, 0), none, none, some (.iload_n 1, 19, 0, 0, 0, 0), some (.iaload, 20, 0, 0, 0, 0), some (.goto 9, 23, 0, 29, 0, 0), none, none, some (.aload_n 0, 24, 0, 0, 0, 0), some (.ldc 181, 26, 0, 0, 0, -1000000002), none, some (.invokevirtual 53, 29, 20, 108, 1, 0), none, none, some (.ireturn, 30, 0, 0, 0, 0)]
set_option maxRecDepth 20000 in
noncomputable def tb_178 : List (Option RI) := [some (.iload_n 0, 1, 0, 0, 0, 0), some (.bipush 8, 3, 0, 0, 0, 8), none, some (.if_icmp .ne 8, 6, 0, 11, 0, 0), none, none, some (.iload_n 1, 7, 0, 0, 0, 0), some (.i2b, 8, 0, 0, 0, 0), some (.goto 15, 11, 0, 23, 0, 0), none, none, some (.iload_n 0, 12, 0, 0, 0, 0), some (.bipush 16, 14, 0, 0, 0, 16), none, some (.if_icmp .ne 8, 17, 0, 22, 0, 0), none, none, some (.iload_n 1, 18, 0, 0, 0, 0), some (.i2s, 19, 0, 0, 0, 0), some (.goto 4, 22, 0, 23, 0, 0), none, none, some (.iload_n 1, 23, 0, 0, 0, 0), some (.ireturn, 24, 0, 0, 0, 0)]
set_option maxRecDepth 20000 in
noncomputable def tb_179 : List (Option RI) := [some (.iload_n 1, 1, 0, 0, 0, 0), some (.invokestatic 192, 4, 0, 160, 1, 0), none, none, some (.ifCond .eq 25, 7, 0, 29, 0, 0), none, none, some (.iload_n 2, 8, 0, 0, 0, 0), some (.ifCond .eq 28, 11, 0, 36, 0, 0), none, none, some (.iload_n 2, 12, 0, 0, 0, 0), some (.bipush 8, 14, 0, 0, 0, 8), none, some (.if_icmp .eq 22, 17, 0, 36, 0, 0), none, none, some (.iload_n 2, 18, 0, 0, 0, 0), some (.bipush 16, 20, 0, 0, 0, 16), none, some (.if_icmp .eq 16, 23, 0, 36, 0, 0), none, none, some (.iload_n 2, 24, 0, 0, 0, 0), some (.bipush 32, 26, 0, 0, 0, 32), none, some (.if_icmp .eq 10, 29, 0, 36, 0, 0), none, none, some (.aload_n 0, 30, 0, 0, 0, 0), some (.ldc 52, 32, 0, 0, 0, -1000000001), none, some (.invokevirtual 53, 35, 20, 108, 1, 0), none, none, some (.ireturn, 36, 0, 0, 0, 0), some (.iload_n 2, 37, 0, 0, 0, 0), some (.ifCond .eq 14, 40, 0, 51, 0, 0), none, none, some (.iload_n 3, 41, 0, 0, 0, 0), some (.ifCond .ge 10, 44, 0, 51, 0, 0), none, none, some (.aload_n 0, 45, 0, 0, 0, 0), some (.ldc 169, 47, 0, 0, 0, -1000000003), none, some (.invokevirtual 53, 50, 20, 108, 1, 0), none, none, some (.ireturn, 51, 0, 0, 0, 0), some (.iload_n 2, 52, 0, 0, 0, 0), some (.ifCond .eq 16, 55, 0, 68, 0, 0), none, none, some (.iload_n 3, 56, 0, 0, 0, 0), some (.bipush 40, 58, 0, 0, 0, 40), none, some (.if_icmp .le 10, 61, 0, 68, 0, 0), none, none, some (.aload_n 0, 62, 0, 0, 0, 0), some (.ldc 52, 64, 0, 0, 0, -1000000001), none, some (.invokevirtual 53, 67, 20, 108, 1, 0), none, none, some (.ireturn, 68, 0, 0, 0, 0), some (.aload_n 0, 69, 0, 0, 0, 0), some (.getfield 25, 72, 0, 7, 15, 0), none, none, some (.iload_n 1, 73, 0, 0, 0, 0), some (.iload_n 2, 74, 0, 0, 0, 0), some (.iastore, 75, 0, 0, 0, 0), some (.aload_n 0, 76, 0, 0, 0, 0), some (.getfield 28, 79, 0, 7, 16, 0), none, none, some (.iload_n 1, 80, 0, 0, 0, 0), some (.iload_n 2, 81, 0, 0, 0, 0), some (.ifCond .ne 7, 84, 0, 88, 0, 0), none, none, some (.iconst 0, 85, 0, 0, 0, 0), some (.goto 4, 88, 0, 89, 0, 0), none, none, some (.iload_n 3, 89, 0, 0, 0, 0), some (.iastore, 90, 0, 0, 0, 0), some (.iconst 0, 91, 0, 0, 0, 0), some (.istore 4, 93, 0, 0, 0, 0), none, some (.iload 4, 95, 0, 0, 0, 0), none, some (.bipush 40, 97, 0, 0, 0, 40), none, some (.if_icmp .ge 22, 100, 0, 119, 0, 0), none, none, some (.aload_n 0, 101, 0, 0, 0, 0), some (.getfield 31, 104, 0, 7, 17, 0), none, none, some (.bipush 40, 106, 0, 0, 0, 40), none, some (.iload_n 1, 107, 0, 0, 0, 0), some (.imul, 108, 0, 0, 0, 0), some (.iload 4, 110, 0, 0, 0, 0), none, some (.iadd, 111, 0, 0, 0, 0), some (.iconst 0, 112, 0, 0, 0, 0), some (.iastore, 113, 0, 0, 0, 0), some (.iinc 4 1, 116, 0, 0, 0, 1), none, none, some (.goto (-23), 119, 0, 93, 0, 0), none, none, some (.iconst 1, 120, 0, 0, 0, 1), some (.ireturn, 121, 0, 0, 0, 0)]
set_option maxRecDepth 20000 in
noncomputable def tb_180 : List (Option RI) := [some (.iload_n 1, 1, 0, 0, 0, 0), some (.invokestatic 192, 4, 0, 160, 1, 0), none, none, some (.ifCond .ne 10, 7, 0, 14, 0, 0), none, none, some (.aload_n 0, 8, 0, 0, 0, 0), some (.ldc 52, 10, 0, 0, 0, -1000000001), none, some (.invokevirtual 53, 13, 20, 108, 1, 0), none, none, some (.ireturn, 14, 0, 0, 0, 0), some (.aload_n 0, 15, 0, 0, 0, 0), some (.getfield 25, 18, 0, 7, 15, 0), none, none, some (.iload_n 1, 19, 0, 0, 0, 0), some (.iaload, 20, 0, 0, 0, 0), some (.ifCond .ne 10, 23, 0, 30, 0, 0), none, none, some (.aload_n 0, 24, 0, 0, 0, 0), some (.ldc 181, 26, 0, 0, 0, -1000000002), none, some (.invokevirtual 53, 29, 20, 108, 1, 0), none, none, some (.ireturn, 30, 0, 0, 0, 0), some (.iload_n 2, 31, 0, 0, 0, 0), some (.iconst 0, 32, 0, 0, 0, 0), some (.aload_n 0, 33, 0, 0, 0, 0), some (.getfield 28, 36, 0, 7, 16, 0), none, none, some (.iload_n 1, 37, 0, 0, 0, 0), some (.iaload, 38, 0, 0, 0, 0), some (.iconst 1, 39, 0, 0, 0, 1), some (.isub, 40, 0, 0, 0, 0), some (.invokestatic 44, 43, 0, 107, 3, 0), none, none, some (.ifCond .ne 10, 46, 0, 53, 0, 0), none, none, some (.aload_n 0, 47, 0, 0, 0, 0), some (.ldc 52, 49, 0, 0, 0, -1000000001), none, some (.invokevirtual 53, 52, 20, 108, 1, 0), none, none, some (.ireturn, 53, 0, 0, 0, 0), some (.aload_n 0, 54, 0, 0, 0, 0), some (.getfield 31, 57, 0, 7, 17, 0), none, none, some (.bipush 40, 59, 0, 0, 0, 40), none, some (.iload_n 1, 60, 0, 0, 0, 0), some (.imul, 61, 0, 0, 0, 0), some (.iload_n 2, 62, 0, 0, 0, 0), some (.iadd, 63, 0, 0, 0, 0), some (.aload_n 0, 64, 0, 0, 0, 0), some (.getfield 25, 67, 0, 7, 15, 0), none, none, some (.iload_n 1, 68, 0, 0, 0, 0), some (.iaload, 69, 0, 0, 0, 0), some (.iload_n 3, 70, 0, 0, 0, 0), some (.invokestatic 228, 73, 0, 178, 2, 0), none, none, some (.iastore, 74, 0, 0, 0, 0), some (.iconst 1, 75, 0, 0, 0, 1), some (.ireturn, 76, 0, 0, 0, 0)]
set_option maxRecDepth 20000 in
noncomputable def tb_181 : List (Option RI) := [some (.iload_n 1, 1, 0, 0, 0, 0), some (.invokestatic 192, 4, 0, 160, 1, 0), none, none, some (.ifCond .eq 10, 7, 0, 14, 0, 0), none, none, some (.iload_n 3, 8, 0, 0, 0, 0), some (.invokestatic 192, 11, 0, 160, 1, 0), none, none, some (.ifCond .ne 10, 14, 0, 21, 0, 0), none, none, some (.aload_n 0, 15, 0, 0, 0, 0), some (.ldc 52, 17, 0, 0, 0, -1000000001), none, some (.invokevirtual 53, 20, 20, 108, 1, 0), none, none, some (.ireturn, 21, 0, 0, 0, 0), some (.aload_n 0, 22, 0, 0, 0, 0), some (.getfield 25, 25, 0, 7, 15, 0), none, none, some (.iload_n 1, 26, 0, 0, 0, 0), some (.iaload, 27, 0, 0, 0, 0), some (.ifCond .eq 12, 30, 0, 39, 0, 0), none, none, some (.aload_n 0, 31, 0, 0, 0, 0), some (.getfield 25, 34, 0, 7, 15, 0), none, none, some (.iload_n 3, 35, 0, 0, 0, 0), some (.iaload, 36, 0, 0, 0, 0), some (.ifCond .ne 10, 39, 0, 46, 0, 0), none, none, some (.aload_n 0, 40, 0, 0, 0, 0), some (.ldc 181, 42, 0, 0, 0, -1000000002), none, some (.invokevirtual 53, 45, 20, 108, 1, 0), none, none, some (.ireturn, 46, 0, 0, 0, 0), some (.aload_n 0, 47, 0, 0, 0, 0), some (.getfield 25, 50, 0, 7, 15, 0), none, none, some (.iload_n 1, 51, 0, 0, 0, 0), some (.iaload, 52, 0, 0, 0, 0), some (.aload_n 0, 53, 0, 0, 0, 0), some (.getfield 25, 56, 0, 7, 15, 0), none, none, some (.iload_n 3, 57, 0, 0, 0, 0), some (.iaload, 58, 0, 0, 0, 0), some (.if_icmp .eq 10, 61, 0, 68, 0, 0), none, none, some (.aload_n 0, 62, 0, 0, 0, 0), some (.ldc 75, 64, 0, 0, 0, -1000000005), none, some (.invokevirtual 53, 67, 20, 108, 1, 0), none, none, some (.ireturn, 68, 0, 0, 0, 0), some (.iload 5, 70, 0, 0, 0, 0), none, some (.ifCond .lt 39, 73, 0, 109, 0, 0), none, none, some (.iload_n 2, 74, 0, 0, 0, 0), some (.ifCond .lt 35, 77, 0, 109, 0, 0), none, none, some (.iload 4, 79, 0, 0, 0, 0), none, some (.ifCond .lt 30, 82, 0, 109, 0, 0), none, none, some (.iload_n 2, 83, 0, 0, 0, 0), some (.aload_n 0, 84, 0, 0, 0, 0), some (.getfield 28, 87, 0, 7, 16, 0), none, none, some (.iload_n 1, 88, 0, 0, 0, 0), some (.iaload, 89, 0, 0, 0, 0), some (.iload 5, 91, 0, 0, 0, 0), none, some (.isub, 92, 0, 0, 0, 0), some (.if_icmp .gt 17, 95, 0, 109, 0, 0), none, none, some (.iload 4, 97, 0, 0, 0, 0), none, some (.aload_n 0, 98, 0, 0, 0, 0), some (.getfield 28, 101, 0, 7, 16, 0), none, none, some (.iload_n 3, 102, 0, 0, 0, 0), some (.iaload, 103, 0, 0, 0, 0), some (.iload 5, 105, 0, 0, 0, 0), none, some (.isub, 106, 0, 0, 0, 0), some (.if_icmp .le 10, 109, 0, 116, 0, 0), none, none, some (.aload_n 0, 110, 0, 0, 0, 0), some (.ldc 52, 112, 0, 0, 0, -1000000001), none, some (.invokevirtual 53, 115, 20, 108, 1, 0), none, none, some (.ireturn, 116, 0, 0, 0, 0), some (.iconst 0, 117, 0, 0, 0, 0), some (.istore 6, 119, 0, 0, 0, 0), none, some (.iload 6, 121, 0, 0, 0, 0), none, some (.iload 5, 123, 0, 0, 0, 0), none, some (.if_icmp .ge 30, 126, 0, 153, 0, 0), none, none, some (.aload_n 0, 127, 0, 0, 0, 0), some (.getfield 34, 130, 0, 7, 18, 0), none, none, some (.iload 6, 132, 0, 0, 0, 0), none, some (.aload_n 0, 133, 0, 0, 0, 0), some (.getfield 31, 136, 0, 7, 17, 0), none, none, some (.bipush 40, 138, 0, 0, 0, 40), none, some (.iload_n 1, 139, 0, 0, 0, 0), some (.imul, 140, 0, 0, 0, 0), some (.iload_n 2, 141, 0, 0, 0, 0), some (.iadd, 142, 0, 0, 0, 0), some (.iload 6, 144, 0, 0, 0, 0), none, some (.iadd, 145, 0, 0, 0, 0), some (.iaload, 146, 0, 0, 0, 0), some (.iastore, 147, 0, 0, 0, 0), some (.iinc 6 1, 150, 0, 0, 0, 1), none, none, some (.goto (-31), 153, 0, 119, 0, 0), none, none, some (.iconst 0, 154, 0, 0, 0, 0), some (.istore 6, 156, 0, 0, 0, 0), none, some (.iload 6, 158, 0, 0, 0, 0), none, some (.iload 5, 160, 0, 0, 0, 0), none, some (.if_icmp .ge 31, 163, 0, 191, 0, 0), none, none, some (.aload_n 0, 164, 0, 0, 0, 0), some (.getfield 31, 167, 0, 7, 17, 0), none, none, some (.bipush 40, 169, 0, 0, 0, 40), none, some (.iload_n 3, 170, 0, 0, 0, 0), some (.imul, 171, 0, 0, 0, 0), some (.iload 4, 173, 0, 0, 0, 0), none, some (.iadd, 174, 0, 0, 0, 0), some (.iload 6, 176, 0, 0, 0, 0), none, some (.iadd, 177, 0, 0, 0, 0), some (.aload_n 0, 178, 0, 0, 0, 0), some (.getfield 34, 181, 0, 7, 18, 0), none, none, some (.iload 6, 183, 0, 0, 0, 0), none, some (.iaload, 184, 0, 0, 0, 0), some (.iastore, 185, 0, 0, 0, 0), some (.iinc 6 1, 188, 0, 0, 0, 1), none, none, some (.goto (-32), 191, 0, 156, 0, 0), none, none, some (.iload 5, 193, 0, 0, 0, 0), none, some (.ireturn, 194, 0, 0, 0, 0)]
set_option maxRecDepth 20000 in
noncomputable def tb_182 : List (Option RI) := [some (.iload_n 1, 1, 0, 0, 0, 0), some (.invokestatic 192, 4, 0, 160, 1, 0), none, none, some (.ifCond .ne 10, 7, 0, 14, 0, 0), none, none, some (.aload_n 0, 8, 0, 0, 0, 0), some (.ldc 52, 10, 0, 0, 0, -1000000001), none, some (.invokevirtual 53, 13, 20, 108, 1, 0), none, none, some (.ireturn, 14, 0, 0, 0, 0), some (.aload_n 0, 15, 0, 0, 0, 0), some (.getfield 25, 18, 0, 7, 15, 0), none, none, some (.iload_n 1, 19, 0, 0, 0, 0), some (.iaload, 20, 0, 0, 0, 0), some (.ifCond .ne 10, 23, 0, 30, 0, 0), none, none, some (.aload_n 0, 24, 0, 0, 0, 0), some (.ldc 181, 26, 0, 0, 0, -1000000002), none, some (.invokevirtual 53, 29, 20, 108, 1, 0), none, none, some (.ireturn, 30, 0, 0, 0, 0), some (.iconst 0, 31, 0, 0, 0, 0), some (.istore_n 2, 32, 0, 0, 0, 0), some (.iload_n 2, 33, 0, 0, 0, 0), some (.aload_n 0, 34, 0, 0, 0, 0), some (.getfield 28, 37, 0, 7, 16, 0), none, none, some (.iload_n 1, 38, 0, 0, 0, 0), some (.iaload, 39, 0, 0, 0, 0), some (.if_icmp .ge 54, 42, 0, 93, 0, 0), none, none, some (.aload_n 0, 43, 0, 0, 0, 0), some (.iload_n 2, 44, 0, 0, 0, 0), some (.invokevirtual 62, 47, 20, 113, 1, 0), none, none, some (.ifCond .eq 46, 50, 0, 93, 0, 0), none, none, some (.aload_n 0, 51, 0, 0, 0, 0), some (.getfield 31, 54, 0, 7, 17, 0), none, none, some (.bipush 40, 56, 0, 0, 0, 40), none, some (.iload_n 1, 57, 0, 0, 0, 0), some (.imul, 58, 0, 0, 0, 0), some (.iload_n 2, 59, 0, 0, 0, 0), some (.iadd, 60, 0, 0, 0, 0), some (.iaload, 61, 0, 0, 0, 0), some (.iconst 0, 62, 0, 0, 0, 0), some (.bipush 9, 64, 0, 0, 0, 9), none, some (.invokestatic 44, 67, 0, 107, 3, 0), none, none, some (.ifCond .eq 26, 70, 0, 93, 0, 0), none, none, some (.aload_n 0, 71, 0, 0, 0, 0), some (.iload_n 2, 72, 0, 0, 0, 0), some (.iconst 3, 73, 0, 0, 0, 3), some (.aload_n 0, 74, 0, 0, 0, 0), some (.getfield 31, 77, 0, 7, 17, 0), none, none, some (.bipush 40, 79, 0, 0, 0, 40), none, some (.iload_n 1, 80, 0, 0, 0, 0), some (.imul, 81, 0, 0, 0, 0), some (.iload_n 2, 82, 0, 0, 0, 0), some (.iadd, 83, 0, 0, 0, 0), some (.iaload, 84, 0, 0, 0, 0), some (.invokevirtual 58, 87, 20, 112, 3, 0), none, none, some (.iinc 2 1, 90, 0, 0, 0, 1), none, none, some (.goto (-58), 93, 0, 32, 0, 0), none, none, some (.iload_n 2, 94, 0, 0, 0, 0), some (.ireturn, 95, 0, 0, 0, 0)]
set_option maxRecDepth 20000 in
noncomputable def tb_183 : List (Option RI) := [some (.iload_n 1, 1, 0, 0, 0, 0), some (.invokestatic 192, 4, 0, 160, 1, 0), none, none, some (.ifCond .ne 10, 7, 0, 14, 0, 0), none, none, some (.aload_n 0, 8, 0, 0, 0, 0), some (.ldc 52, 10, 0, 0, 0, -1000000001), none, some (.invokevirtual 53, 13, 20, 108, 1, 0), none, none, some (.ireturn, 14, 0, 0, 0, 0), some (.aload_n 0, 15, 0, 0, 0, 0), some (.getfield 25, 18, 0, 7, 15, 0), none, none, some (.iload_n 1, 19, 0, 0, 0, 0), some (.iaload, 20, 0, 0, 0, 0), some (.ifCond .ne 10, 23, 0, 30, 0, 0), none, none, some (.aload_n 0, 24, 0, 0, 0, 0), some (.ldc 181, 26, 0, 0, 0, -1000000002), none, some (.invokevirtual 53, 29, 20, 108, 1, 0), none, none, some (.ireturn, 30, 0, 0, 0, 0), some (.iconst 0, 31, 0, 0, 0, 0), some (.istore_n 2, 32, 0, 0, 0, 0), some (.iload_n 2, 33, 0, 0, 0, 0), some (.aload_n 0, 34, 0, 0, 0, 0), some (.getfield 7, 37, 0, 7, 0, 0), none, none, some (.iconst 2, 38, 0, 0, 0, 2), some (.iaload, 39, 0, 0, 0, 0), some (.if_icmp .ge 38, 42, 0, 77, 0, 0), none, none, some (.iload_n 2, 43, 0, 0, 0, 0), some (.aload_n 0, 44, 0, 0, 0, 0), some (.getfield 28, 47, 0, 7, 16, 0), none, none, some (.iload_n 1, 48, 0, 0, 0, 0), some (.iaload, 49, 0, 0, 0, 0), some (.if_icmp .ge 28, 52, 0, 77, 0, 0), none, none, some (.aload_n 0, 53, 0, 0, 0, 0), some (.getfield 31, 56, 0, 7, 17, 0), none, none, some (.bipush 40, 58, 0, 0, 0, 40), none, some (.iload_n 1, 59, 0, 0, 0, 0), some (.imul, 60, 0, 0, 0, 0), some (.iload_n 2, 61, 0, 0, 0, 0), some (.iadd, 62, 0, 0, 0, 0), some (.iaload, 63, 0, 0, 0, 0), some (.aload_n 0, 64, 0, 0, 0, 0), some (.iload_n 2, 65, 0, 0, 0, 0), some (.invokevirtual 69, 68, 20, 132, 1, 0), none, none, some (.if_icmp .ne 9, 71, 0, 77, 0, 0), none, none, some (.iinc 2 1, 74, 0, 0, 0, 1), none, none, some (.goto (-42), 77, 0, 32, 0, 0), none, none, some (.iload_n 2, 78, 0, 0, 0, 0), some (.aload_n 0, 79, 0, 0, 0, 0), some (.getfield 7, 82, 0, 7, 0, 0), none, none, some (.iconst 2, 83, 0, 0, 0, 2), some (.iaload, 84, 0, 0, 0, 0), some (.if_icmp .ne 17, 87, 0, 101, 0, 0), none, none, some (.iload_n 2, 88, 0, 0, 0, 0), some (.aload_n 0, 89, 0, 0, 0, 0), some (.getfield 28, 92, 0, 7, 16, 0), none, none, some (.iload_n 1, 93, 0, 0, 0, 0), some (.iaload, 94, 0, 0, 0, 0), some (.if_icmp .ne 7, 97, 0, 101, 0, 0), none, none, some (.iconst (-1), 98, 0, 0, 0, -1), some (.goto 4, 101, 0, 102, 0, 0), none, none, some (.iload_n 2, 102, 0, 0, 0, 0), some (.ireturn, 103, 0, 0, 0, 0)]
set_option maxRecDepth 20000 in
noncomputable def tb_184 : List (Option RI) := [some (.aload_n 0, 1, 0, 0, 0, 0), some (.aload_n 0, 2, 0, 0, 0, 0), some (.getfield 7, 5, 0, 7, 0, 0), none, none, some (.aload_n 0, 6, 0, 0, 0, 0), some (.getfield 13, 9, 0, 7, 1, 0), none, none, some (.invokevirtual 149, 12, 20, 110, 2, 0), none, none, some (.aload_n 0, 13, 0, 0, 0, 0), some (.iconst 1, 14, 0, 0, 0, 1), some (.putfield 231, 17, 0, 7, 4, 0), none, none, some (.aload_n 0, 18, 0, 0, 0, 0), some (.dup, 19, 0, 0, 0, 0), some (.getfield 234, 22, 0, 7, 5, 0), none, none, some (.iconst 1, 23, 0, 0, 0, 1), some (.iadd, 24, 0, 0, 0, 0), some (.putfield 234, 27, 0, 7, 5, 0), none, none, some (.aload_n 0, 28, 0, 0, 0, 0), some (.getfield 234, 31, 0, 7, 5, 0), none, none, some (.ireturn, 32, 0, 0, 0, 0)]
set_option maxRecDepth 20000 in
noncomputable def tb_185 : List (Option RI) := [some (.aload_n 0, 1, 0, 0, 0, 0), some (.getfield 231, 4, 0, 7, 4, 0), none, none, some (.ifCond .ne 10, 7, 0, 14, 0, 0), none, none, some (.aload_n 0, 8, 0, 0, 0, 0), some (.ldc 181, 10, 0, 0, 0, -1000000002), none, some (.invokevirtual 53, 13, 20, 108, 1, 0), none, none, some (.ireturn, 14, 0, 0, 0, 0), some (.aload_n 0, 15, 0, 0, 0, 0), some (.aload_n 0, 16, 0, 0, 0, 0), some (.getfield 13, 19, 0, 7, 1, 0), none, none, some (.aload_n 0, 20, 0, 0, 0, 0), some (.getfield 7, 23, 0, 7, 0, 0), none, none, some (.invokevirtual 149, 26, 20, 110, 2, 0), none, none, some (.aload_n 0, 27, 0, 0, 0, 0), some (.getfield 7, 30, 0, 7, 0, 0), none, none, some (.iconst 0, 31, 0, 0, 0, 0), some (.iaload, 32, 0, 0, 0, 0), some (.ireturn, 33, 0, 0, 0, 0)]
set_option maxRecDepth 20000 in
noncomputable def tb_186 : List (Option RI) := [some (.aload_n 0, 1, 0, 0, 0, 0), some (.getfield 7, 4, 0, 7, 0, 0), none, none, some (.iconst 4, 5, 0, 0, 0, 4), some (.iaload, 6, 0, 0, 0, 0), some (.bipush 20, 8, 0, 0, 0, 20), none, some (.if_icmp .ne 10, 11, 0, 18, 0, 0), none, none, some (.aload_n 0, 12, 0, 0, 0, 0), some (.ldc 57, 14, 0, 0, 0, -1000000004), none, some (.invokevirtual 53, 17, 20, 108, 1, 0), none, none, some (.ireturn, 18, 0, 0, 0, 0), some (.aload_n 0, 19, 0, 0, 0, 0), some (.getfield 7, 22, 0, 7, 0, 0), none, none, some (.bipush 114, 24, 0, 0, 0, 114), none, some (.aload_n 0, 25, 0, 0, 0, 0), some (.getfield 7, 28, 0, 7, 0, 0), none, none, some (.iconst 4, 29, 0, 0, 0, 4), some (.iaload, 30, 0, 0, 0, 0), some (.iadd, 31, 0, 0, 0, 0), some (.iload_n 1, 32, 0, 0, 0, 0), some (.iastore, 33, 0, 0, 0, 0), some (.aload_n 0, 34, 0, 0, 0, 0), some (.getfield 7, 37, 0, 7, 0, 0), none, none, some (.iconst 4, 38, 0, 0, 0, 4), some (.dup2, 39, 0, 0, 0, 0), some (.iaload, 40, 0, 0, 0, 0), some (.iconst 1, 41, 0, 0, 0, 1), some (.iadd, 42, 0, 0, 0, 0), some (.iastore, 43, 0, 0, 0, 0), some (.aload_n 0, 44, 0, 0, 0, 0), some (.getfield 7, 47, 0, 7, 0, 0), none, none, some (.iconst 4, 48, 0, 0, 0, 4), some (.iaload, 49, 0, 0, 0, 0), some (.ireturn, 50, 0, 0, 0, 0)]
set_option maxRecDepth 20000 in
noncomputable def tb_187 : List (Option RI) := [some (.aload_n 0, 1, 0, 0, 0, 0), some (.getfield 7, 4, 0, 7, 0, 0), none, none, some (.iconst 4, 5, 0, 0, 0, 4), some (.iaload, 6, 0, 0, 0, 0), some (.istore_n 1, 7, 0, 0, 0, 0), some (.aload_n 0, 8, 0, 0, 0, 0), some (.getfield 7, 11, 0, 7, 0, 0), none, none, some (.iconst 4, 12, 0, 0, 0, 4), some (.iconst 0, 13, 0, 0, 0, 0), some (.iastore, 14, 0, 0, 0, 0), some (.aload_n 0, 15, 0, 0, 0, 0), some (.aload_n 0, 16, 0, 0, 0, 0), some (.getfield 7, 19, 0, 7, 0, 0), none, none, some (.aload_n 0, 20, 0, 0, 0, 0), some (.getfield 16, 23, 0, 7, 2, 0), none, none, some (.invokevirtual 149, 26, 20, 110, 2, 0), none, none, some (.iconst 0, 27, 0, 0, 0, 0), some (.istore_n 2, 28, 0, 0, 0, 0), some (.iconst 1, 29, 0, 0, 0, 1), some (.istore_n 3, 30, 0, 0, 0, 0), some (.iload_n 2, 31, 0, 0, 0, 0), some (.iload_n 1, 32, 0, 0, 0, 0), some (.if_icmp .ge 49, 35, 0, 81, 0, 0), none, none, some (.iload_n 3, 36, 0, 0, 0, 0), some (.ifCond .eq 45, 39, 0, 81, 0, 0), none, none, some (.aload_n 0, 40, 0, 0, 0, 0), some (.invokevirtual 166, 43, 20, 145, 0, 0), none, none, some (.aload_n 0, 44, 0, 0, 0, 0), some (.iconst 2, 45, 0, 0, 0, 2), some (.invokevirtual 174, 48, 20, 147, 1, 0), none, none, some (.aload_n 0, 49, 0, 0, 0, 0), some (.getfield 7, 52, 0, 7, 0, 0), none, none, some (.bipush 114, 54, 0, 0, 0, 114), none, some (.iload_n 2, 55, 0, 0, 0, 0), some (.iadd, 56, 0, 0, 0, 0), some (.iaload, 57, 0, 0, 0, 0), some (.if_icmp .ne 7, 60, 0, 64, 0, 0), none, none, some (.iconst 1, 61, 0, 0, 0, 1), some (.goto 4, 64, 0, 65, 0, 0), none, none, some (.iconst 0, 65, 0, 0, 0, 0), some (.istore_n 3, 66, 0, 0, 0, 0), some (.iload_n 2, 67, 0, 0, 0, 0), some (.iload_n 3, 68, 0, 0, 0, 0), some (.ifCond .eq 7, 71, 0, 75, 0, 0), none, none, some (.iconst 1, 72, 0, 0, 0, 1), some (.goto 4, 75, 0, 76, 0, 0), none, none, some (.iconst 0, 76, 0, 0, 0, 0), some (.iadd, 77, 0, 0, 0, 0), some (.istore_n 2, 78, 0, 0, 0, 0), some (.goto (-48), 81, 0, 30, 0, 0), none, none, some (.aload_n 0, 82, 0, 0, 0, 0), some (.aload_n 0, 83, 0, 0, 0, 0), some (.getfield 16, 86, 0, 7, 2, 0), none, none, some (.aload_n 0, 87, 0, 0, 0, 0), some (.getfield 7, 90, 0, 7, 0, 0), none, none, some (.invokevirtual 149, 93, 20, 110, 2, 0), none, none, some (.iload_n 3, 94, 0, 0, 0, 0), some (.ifCond .eq 7, 97, 0, 101, 0, 0), none, none, some (.iconst 0, 98, 0, 0, 0, 0), some (.goto 6, 101, 0, 104, 0, 0), none, none, some (.iconst 1, 102, 0, 0, 0, 1), some (.iload_n 2, 103, 0, 0, 0, 0), some (.iadd, 104, 0, 0, 0, 0), some (.ireturn, 105, 0, 0, 0, 0)]
set_option maxRecDepth 20000 in
noncomputable def tb_188 : List (Option RI) := [some (.iload_n 1, 1, 0, 0, 0, 0), some (.tableswitch 121 0 9 #[55, 62, 70, 77, 83, 89, 95, 102, 109, 114], 56, 0, 0, 0, 0), none, none, none, none, none, none, none, none, none, none, none, none, none, none, none, none, none, none, none, none, none, none, none, none, none, none, none, none, none, none, none, none, none, none, none, none, none, none, none, none, none, none, none, none, none, none, none, none, none, none, none, none, none, none, some (.aload_n 0, 57, 0, 0, 0, 0), some (.getfield 7, 60, 0, 7, 0, 0), none, none, some (.iconst 2, 61, 0, 0, 0, 2), some (.iaload, 62, 0, 0, 0, 0), some (.ireturn, 63, 0, 0, 0, 0), some (.aload_n 0, 64, 0, 0, 0, 0), some (.getfield 7, 67, 0, 7, 0, 0), none, none, some (.bipush 7, 69, 0, 0, 0, 7), none, some (.iaload, 70, 0, 0, 0, 0), some (.ireturn, 71, 0, 0, 0, 0), some (.aload_n 0, 72, 0, 0, 0, 0), some (.getfield 7, 75, 0, 7, 0, 0), none, none, some (.iconst 0, 76, 0, 0, 0, 0), some (.iaload, 77, 0, 0, 0, 0), some (.ireturn, 78, 0, 0, 0, 0), some (.aload_n 0, 79, 0, 0, 0, 0), some (.iconst 2, 80, 0, 0, 0, 2), some (.invokevirtual 174, 83, 20, 147, 1, 0), none, none, some (.ireturn, 84, 0, 0, 0, 0), some (.aload_n 0, 85, 0, 0, 0, 0), some (.iconst 4, 86, 0, 0, 0, 4), some (.invokevirtual 174, 89, 20, 147, 1, 0), none, none, some (.ireturn, 90, 0, 0, 0, 0), some (.aload_n 0, 91, 0, 0, 0, 0), some (.iconst 5, 92, 0, 0, 0, 5), some (.invokevirtual 174, 95, 20, 147, 1, 0), none, none, some (.ireturn, 96, 0, 0, 0, 0), some (.aload_n 0, 97, 0, 0, 0, 0), some (.getfield 7, 100, 0, 7, 0, 0), none, none, some (.iconst 3, 101, 0, 0, 0, 3), some (.iaload, 102, 0, 0, 0, 0), some (.ireturn, 103, 0, 0, 0, 0), some (.aload_n 0, 104, 0, 0, 0, 0), some (.getfield 7, 107, 0, 7, 0, 0), none, none, some (.iconst 4, 108, 0, 0, 0, 4), some (.iaload, 109, 0, 0, 0, 0), some (.ireturn, 110, 0, 0, 0, 0), some (.aload_n 0, 111, 0, 0, 0, 0), some (.getfield 201, 114, 0, 7, 21, 0), none, none, some (.ireturn, 115, 0, 0, 0, 0), some (.aload_n 0, 116, 0, 0, 0, 0), some (.getfield 7, 119, 0, 7, 0, 0), none, none, some (.iconst 1, 120, 0, 0, 0, 1), some (.iaload, 121, 0, 0, 0, 0), some (.ireturn, 122, 0, 0, 0, 0), some (.aload_n 0, 123, 0, 0, 0, 0), some (.ldc 52, 125, 0, 0, 0, -1000000001), none, some (.invokevirtual 53, 128, 20, 108, 1, 0), none, none, some (.ireturn, 129, 0, 0, 0, 0)]
set_option maxRecDepth 20000 in
noncomputable def tb_189 : List (Option RI) := [some (.iload_n 1, 1, 0, 0, 0, 0), some (.iconst 1, 2, 0, 0, 0, 1), some (.iconst 5, 3, 0, 0, 0, 5), some (.invokestatic 44, 6, 0, 107, 3, 0), none, none, some (.ifCond .eq 12, 9, 0, 18, 0, 0), none, none, some (.aload_n 0, 10, 0, 0, 0, 0), some (.getfield 22, 13, 0, 7, 6, 0), none, none, some (.iload_n 1, 14, 0, 0, 0, 0), some (.iaload, 15, 0, 0, 0, 0), some (.goto 9, 18, 0, 24, 0, 0), none, none, some (.aload_n 0, 19, 0, 0, 0, 0), some (.ldc 52, 21, 0, 0, 0, -1000000001), none, some (.invokevirtual 53, 24, 20, 108, 1, 0), none, none, some (.ireturn, 25, 0, 0, 0, 0)]
noncomputable def tb_190_0 : List (Option RI) := [some (.new 7, 3, 0, 6, 11, 0), none, none, some (.dup, 4, 0, 0, 0, 0), some (.invokespecial 9, 7, 10, 53, 0, 0), none, none, some (.astore_n 1, 8, 0, 0, 0, 0), some (.new 10, 11, 0, 7, 25, 0), none, none, some (.dup, 12, 0, 0, 0, 0), some (.invokespecial 12, 15, 10, 106, 0, 0), none, none, some (.astore_n 2, 16, 0, 0, 0, 0), some (.iconst 0, 17, 0, 0, 0, 0), some (.istore_n 3, 18, 0, 0, 0, 0), some (.iload_n 3, 19, 0, 0, 0, 0), some (.aload_n 0, 20, 0, 0, 0, 0), some (.arraylength, 21, 0, 0, 0, 0), some (.bipush 6, 23, 0, 0, 0, 6), none, some (.isub, 24, 0, 0, 0, 0), some (.if_icmp .gt 1410, 27, 0, 1434, 0, 0), none, none, some (.aload_n 0, 28, 0, 0, 0, 0), some (.iload_n 3, 29, 0, 0, 0, 0), some (.iaload, 30, 0, 0, 0, 0), some (.bipush 63, 32, 0, 0, 0, 63), none, some (.iand, 33, 0, 0, 0, 0), some (.tableswitch 1395 0 39 #[175, 208, 231, 254, 297, 330, 373, 406, 439, 502, 525, 578, 601, 624, 637, 680, 703, 716, 749, 782, 815, 838, 871, 904, 937, 960, 1003, 1026, 1069, 1092, 1135, 1178, 1241, 1264, 1287, 1300, 1313, 1336, 1349, 1372], 208, 0, 0, 0, 0), none, none, none, none, none, none, none, none, none, none, none, none, none, none, none, none, none, none, none, none, none, none, none, none, none, none, none, none, none, none, none, none, none, none, none, none, none, none, none, none, none, none, none, none, none, none, none, none, none, none, none, none, none, none, none, none, none, none, none, none, none, none, none, none, none, none, none, none, none, none, none, none, none, none, none, none, none, none, none, none, none, none, none, none, none, none, none, none, none, none, none, none, none, none]
noncomputable def tb_190_1 : List (Option RI) := [none, none, none, none, none, none, none, none, none, none, none, none, none, none, none, none, none, none, none, none, none, none, none, none, none, none, none, none, none, none, none, none, none, none, none, none, none, none, none, none, none, none, none, none, none, none, none, none, none, none, none, none, none, none, none, none, none, none, none, none, none, none, none, none, none, none, none, none, none, none, none, none, none, none, none, none, none, none, none, none, some (.aload_n 1, 209, 0, 0, 0, 0), some (.aload_n 0, 210, 0, 0, 0, 0), some (.iload_n 3, 211, 0, 0, 0, 0), some (.iconst 1, 212, 0, 0, 0, 1), some (.iadd, 213, 0, 0, 0, 0), some (.iaload, 214, 0, 0, 0, 0), some (.aload_n 0, 215, 0, 0, 0, 0), some (.iload_n 3, 216, 0, 0, 0, 0), some (.iconst 2, 217, 0, 0, 0, 2), some (.iadd, 218, 0, 0, 0, 0), some (.iaload, 219, 0, 0, 0, 0), some (.invokevirtual 13, 222, 20, 56, 2, 0), none, none, some (.aload_n 2, 223, 0, 0, 0, 0), some (.aload_n 0, 224, 0, 0, 0, 0), some (.iload_n 3, 225, 0, 0, 0, 0), some (.iconst 1, 226, 0, 0, 0, 1), some (.iadd, 227, 0, 0, 0, 0), some (.iaload, 228, 0, 0, 0, 0), some (.aload_n 0, 229, 0, 0, 0, 0), some (.iload_n 3, 230, 0, 0, 0, 0), some (.iconst 2, 231, 0, 0, 0, 2), some (.iadd, 232, 0, 0, 0, 0), some (.iaload, 233, 0, 0, 0, 0), some (.invokevirtual 17, 236, 20, 115, 2, 0), none, none, some (.if_icmp .eq 1192, 239, 0, 1428, 0, 0), none, none, some (.iconst 0, 240, 0, 0, 0, 0), some (.ireturn, 241, 0, 0, 0, 0), some (.aload_n 1, 242, 0, 0, 0, 0), some (.aload_n 0, 243, 0, 0, 0, 0), some (.iload_n 3, 244, 0, 0, 0, 0), some (.iconst 1, 245, 0, 0, 0, 1), some (.iadd, 246, 0, 0, 0, 0), some (.iaload, 247, 0, 0, 0, 0), some (.invokevirtual 18, 250, 20, 57, 1, 0), none, none, some (.aload_n 2, 251, 0, 0, 0, 0), some (.aload_n 0, 252, 0, 0, 0, 0), some (.iload_n 3, 253, 0, 0, 0, 0), some (.iconst 1, 254, 0, 0, 0, 1), some (.iadd, 255, 0, 0, 0, 0), some (.iaload, 256, 0, 0, 0, 0)]
noncomputable def tb_190_2 : List (Option RI) := [some (.invokevirtual 22, 259, 20, 116, 1, 0), none, none, some (.if_icmp .eq 1169, 262, 0, 1428, 0, 0), none, none, some (.iconst 0, 263, 0, 0, 0, 0), some (.ireturn, 264, 0, 0, 0, 0), some (.aload_n 1, 265, 0, 0, 0, 0), some (.aload_n 0, 266, 0, 0, 0, 0), some (.iload_n 3, 267, 0, 0, 0, 0), some (.iconst 1, 268, 0, 0, 0, 1), some (.iadd, 269, 0, 0, 0, 0), some (.iaload, 270, 0, 0, 0, 0), some (.invokevirtual 23, 273, 20, 58, 1, 0), none, none, some (.aload_n 2, 274, 0, 0, 0, 0), some (.aload_n 0, 275, 0, 0, 0, 0), some (.iload_n 3, 276, 0, 0, 0, 0), some (.iconst 1, 277, 0, 0, 0, 1), some (.iadd, 278, 0, 0, 0, 0), some (.iaload, 279, 0, 0, 0, 0), some (.invokevirtual 26, 282, 20, 117, 1, 0), none, none, some (.if_icmp .eq 1146, 285, 0, 1428, 0, 0), none, none, some (.iconst 0, 286, 0, 0, 0, 0), some (.ireturn, 287, 0, 0, 0, 0), some (.aload_n 1, 288, 0, 0, 0, 0), some (.aload_n 0, 289, 0, 0, 0, 0), some (.iload_n 3, 290, 0, 0, 0, 0), some (.iconst 1, 291, 0, 0, 0, 1), some (.iadd, 292, 0, 0, 0, 0), some (.iaload, 293, 0, 0, 0, 0), some (.aload_n 0, 294, 0, 0, 0, 0), some (.iload_n 3, 295, 0, 0, 0, 0), some (.iconst 2, 296, 0, 0, 0, 2), some (.iadd, 297, 0, 0, 0, 0), some (.iaload, 298, 0, 0, 0, 0), some (.aload_n 0, 299, 0, 0, 0, 0), some (.iload_n 3, 300, 0, 0, 0, 0), some (.iconst 3, 301, 0, 0, 0, 3), some (.iadd, 302, 0, 0, 0, 0), some (.iaload, 303, 0, 0, 0, 0), some (.invokevirtual 27, 306, 20, 59, 3, 0), none, none, some (.aload_n 2, 307, 0, 0, 0, 0), some (.aload_n 0, 308, 0, 0, 0, 0), some (.iload_n 3, 309, 0, 0, 0, 0), some (.iconst 1, 310, 0, 0, 0, 1), some (.iadd, 311, 0, 0, 0, 0), some (.iaload, 312, 0, 0, 0, 0), some (.aload_n 0, 313, 0, 0, 0, 0), some (.iload_n 3, 314, 0, 0, 0, 0), some (.iconst 2, 315, 0, 0, 0, 2), some (.iadd, 316, 0, 0, 0, 0), some (.iaload, 317, 0, 0, 0, 0), some (.aload_n 0, 318, 0, 0, 0, 0), some (.iload_n 3, 319, 0, 0, 0, 0), some (.iconst 3, 320, 0, 0, 0, 3), some (.iadd, 321, 0, 0, 0, 0), some (.iaload, 322, 0, 0, 0, 0), some (.invokevirtual 31, 325, 20, 118, 3, 0), none, none, some (.if_icmp .eq 1103, 328, 0, 1428, 0, 0), none, none, some (.iconst 0, 329, 0, 0, 0, 0), some (.ireturn, 330, 0, 0, 0, 0), some (.aload_n 1, 331, 0, 0, 0, 0), some (.aload_n 0, 332, 0, 0, 0, 0), some (.iload_n 3, 333, 0, 0, 0, 0), some (.iconst 1, 334, 0, 0, 0, 1), some (.iadd, 335, 0, 0, 0, 0), some (.iaload, 336, 0, 0, 0, 0), some (.aload_n 0, 337, 0, 0, 0, 0), some (.iload_n 3, 338, 0, 0, 0, 0), some (.iconst 2, 339, 0, 0, 0, 2), some (.iadd, 340, 0, 0, 0, 0), some (.iaload, 341, 0, 0, 0, 0), some (.invokevirtual 32, 344, 20, 61, 2, 0), none, none, some (.aload_n 2, 345, 0, 0, 0, 0), some (.aload_n 0, 346, 0, 0, 0, 0), some (.iload_n 3, 347, 0, 0, 0, 0), some (.iconst 1, 348, 0, 0, 0, 1), some (.iadd, 349, 0, 0, 0, 0), some (.iaload, 350, 0, 0, 0, 0), some (.aload_n 0, 351, 0, 0, 0, 0), some (.iload_n 3, 352, 0, 0, 0, 0), some (.iconst 2, 353, 0, 0, 0, 2), some (.iadd, 354, 0, 0, 0, 0), some (.iaload, 355, 0, 0, 0, 0), some (.invokevirtual 35, 358, 20, 133, 2, 0), none, none, some (.if_icmp .eq 1070, 361, 0, 1428, 0, 0), none, none, some (.iconst 0, 362, 0, 0, 0, 0), some (.ireturn, 363, 0, 0, 0, 0), some (.aload_n 1, 364, 0, 0, 0, 0), some (.aload_n 0, 365, 0, 0, 0, 0), some (.iload_n 3, 366, 0, 0, 0, 0), some (.iconst 1, 367, 0, 0, 0, 1), some (.iadd, 368, 0, 0, 0, 0), some (.iaload, 369, 0, 0, 0, 0), some (.aload_n 0, 370, 0, 0, 0, 0), some (.iload_n 3, 371, 0, 0, 0, 0), some (.iconst 2, 372, 0, 0, 0, 2), some (.iadd, 373, 0, 0, 0, 0), some (.iaload, 374, 0, 0, 0, 0), some (.aload_n 0, 375, 0, 0, 0, 0), some (.iload_n 3, 376, 0, 0, 0, 0), some (.iconst 3, 377, 0, 0, 0, 3), some (.iadd, 378, 0, 0, 0, 0), some (.iaload, 379, 0, 0, 0, 0), some (.invokevirtual 36, 382, 20, 63, 3, 0), none, none, some (.aload_n 2, 383, 0, 0, 0, 0), some (.aload_n 0, 384, 0, 0, 0, 0)]
noncomputable def tb_190_3 : List (Option RI) := [some (.iload_n 3, 385, 0, 0, 0, 0), some (.iconst 1, 386, 0, 0, 0, 1), some (.iadd, 387, 0, 0, 0, 0), some (.iaload, 388, 0, 0, 0, 0), some (.aload_n 0, 389, 0, 0, 0, 0), some (.iload_n 3, 390, 0, 0, 0, 0), some (.iconst 2, 391, 0, 0, 0, 2), some (.iadd, 392, 0, 0, 0, 0), some (.iaload, 393, 0, 0, 0, 0), some (.aload_n 0, 394, 0, 0, 0, 0), some (.iload_n 3, 395, 0, 0, 0, 0), some (.iconst 3, 396, 0, 0, 0, 3), some (.iadd, 397, 0, 0, 0, 0), some (.iaload, 398, 0, 0, 0, 0), some (.invokevirtual 39, 401, 20, 134, 3, 0), none, none, some (.if_icmp .eq 1027, 404, 0, 1428, 0, 0), none, none, some (.iconst 0, 405, 0, 0, 0, 0), some (.ireturn, 406, 0, 0, 0, 0), some (.aload_n 1, 407, 0, 0, 0, 0), some (.aload_n 0, 408, 0, 0, 0, 0), some (.iload_n 3, 409, 0, 0, 0, 0), some (.iconst 1, 410, 0, 0, 0, 1), some (.iadd, 411, 0, 0, 0, 0), some (.iaload, 412, 0, 0, 0, 0), some (.aload_n 0, 413, 0, 0, 0, 0), some (.iload_n 3, 414, 0, 0, 0, 0), some (.iconst 2, 415, 0, 0, 0, 2), some (.iadd, 416, 0, 0, 0, 0), some (.iaload, 417, 0, 0, 0, 0), some (.invokevirtual 40, 420, 20, 64, 2, 0), none, none, some (.aload_n 2, 421, 0, 0, 0, 0), some (.aload_n 0, 422, 0, 0, 0, 0), some (.iload_n 3, 423, 0, 0, 0, 0), some (.iconst 1, 424, 0, 0, 0, 1), some (.iadd, 425, 0, 0, 0, 0), some (.iaload, 426, 0, 0, 0, 0), some (.aload_n 0, 427, 0, 0, 0, 0), some (.iload_n 3, 428, 0, 0, 0, 0), some (.iconst 2, 429, 0, 0, 0, 2), some (.iadd, 430, 0, 0, 0, 0), some (.iaload, 431, 0, 0, 0, 0), some (.invokevirtual 43, 434, 20, 135, 2, 0), none, none, some (.if_icmp .eq 994, 437, 0, 1428, 0, 0), none, none, some (.iconst 0, 438, 0, 0, 0, 0), some (.ireturn, 439, 0, 0, 0, 0), some (.aload_n 1, 440, 0, 0, 0, 0), some (.aload_n 0, 441, 0, 0, 0, 0), some (.iload_n 3, 442, 0, 0, 0, 0), some (.iconst 1, 443, 0, 0, 0, 1), some (.iadd, 444, 0, 0, 0, 0), some (.iaload, 445, 0, 0, 0, 0), some (.aload_n 0, 446, 0, 0, 0, 0), some (.iload_n 3, 447, 0, 0, 0, 0), some (.iconst 2, 448, 0, 0, 0, 2), some (.iadd, 449, 0, 0, 0, 0), some (.iaload, 450, 0, 0, 0, 0), some (.invokevirtual 44, 453, 20, 66, 2, 0), none, none, some (.aload_n 2, 454, 0, 0, 0, 0), some (.aload_n 0, 455, 0, 0, 0, 0), some (.iload_n 3, 456, 0, 0, 0, 0), some (.iconst 1, 457, 0, 0, 0, 1), some (.iadd, 458, 0, 0, 0, 0), some (.iaload, 459, 0, 0, 0, 0), some (.aload_n 0, 460, 0, 0, 0, 0), some (.iload_n 3, 461, 0, 0, 0, 0), some (.iconst 2, 462, 0, 0, 0, 2), some (.iadd, 463, 0, 0, 0, 0), some (.iaload, 464, 0, 0, 0, 0), some (.invokevirtual 47, 467, 20, 137, 2, 0), none, none, some (.if_icmp .eq 961, 470, 0, 1428, 0, 0), none, none, some (.iconst 0, 471, 0, 0, 0, 0), some (.ireturn, 472, 0, 0, 0, 0), some (.aload_n 1, 473, 0, 0, 0, 0), some (.aload_n 0, 474, 0, 0, 0, 0), some (.iload_n 3, 475, 0, 0, 0, 0), some (.iconst 1, 476, 0, 0, 0, 1), some (.iadd, 477, 0, 0, 0, 0), some (.iaload, 478, 0, 0, 0, 0), some (.i2l, 479, 0, 0, 0, 0), some (.bipush 32, 481, 0, 0, 0, 32), none, some (.lshl, 482, 0, 0, 0, 0), some (.aload_n 0, 483, 0, 0, 0, 0), some (.iload_n 3, 484, 0, 0, 0, 0), some (.iconst 2, 485, 0, 0, 0, 2), some (.iadd, 486, 0, 0, 0, 0), some (.iaload, 487, 0, 0, 0, 0), some (.i2l, 488, 0, 0, 0, 0), some (.ldc2_w 48, 491, 0, 4294967295, 0, 0), none, none, some (.land, 492, 0, 0, 0, 0), some (.lor, 493, 0, 0, 0, 0), some (.aload_n 0, 494, 0, 0, 0, 0), some (.iload_n 3, 495, 0, 0, 0, 0), some (.iconst 3, 496, 0, 0, 0, 3), some (.iadd, 497, 0, 0, 0, 0), some (.iaload, 498, 0, 0, 0, 0), some (.invokevirtual 50, 501, 20, 67, 2, 0), none, none, some (.aload_n 2, 502, 0, 0, 0, 0), some (.aload_n 0, 503, 0, 0, 0, 0), some (.iload_n 3, 504, 0, 0, 0, 0), some (.iconst 1, 505, 0, 0, 0, 1), some (.iadd, 506, 0, 0, 0, 0), some (.iaload, 507, 0, 0, 0, 0), some (.i2l, 508, 0, 0, 0, 0), some (.bipush 32, 510, 0, 0, 0, 32), none, some (.lshl, 511, 0, 0, 0, 0), some (.aload_n 0, 512, 0, 0, 0, 0)]
noncomputable def tb_190_4 : List (Option RI) := [some (.iload_n 3, 513, 0, 0, 0, 0), some (.iconst 2, 514, 0, 0, 0, 2), some (.iadd, 515, 0, 0, 0, 0), some (.iaload, 516, 0, 0, 0, 0), some (.i2l, 517, 0, 0, 0, 0), some (.ldc2_w 48, 520, 0, 4294967295, 0, 0), none, none, some (.land, 521, 0, 0, 0, 0), some (.lor, 522, 0, 0, 0, 0), some (.aload_n 0, 523, 0, 0, 0, 0), some (.iload_n 3, 524, 0, 0, 0, 0), some (.iconst 3, 525, 0, 0, 0, 3), some (.iadd, 526, 0, 0, 0, 0), some (.iaload, 527, 0, 0, 0, 0), some (.invokevirtual 54, 530, 20, 139, 2, 0), none, none, some (.if_icmp .eq 898, 533, 0, 1428, 0, 0), none, none, some (.iconst 0, 534, 0, 0, 0, 0), some (.ireturn, 535, 0, 0, 0, 0), some (.aload_n 1, 536, 0, 0, 0, 0), some (.aload_n 0, 537, 0, 0, 0, 0), some (.iload_n 3, 538, 0, 0, 0, 0), some (.iconst 1, 539, 0, 0, 0, 1), some (.iadd, 540, 0, 0, 0, 0), some (.iaload, 541, 0, 0, 0, 0), some (.invokevirtual 55, 544, 20, 68, 1, 0), none, none, some (.aload_n 2, 545, 0, 0, 0, 0), some (.aload_n 0, 546, 0, 0, 0, 0), some (.iload_n 3, 547, 0, 0, 0, 0), some (.iconst 1, 548, 0, 0, 0, 1), some (.iadd, 549, 0, 0, 0, 0), some (.iaload, 550, 0, 0, 0, 0), some (.invokevirtual 58, 553, 20, 140, 1, 0), none, none, some (.if_icmp .eq 875, 556, 0, 1428, 0, 0), none, none, some (.iconst 0, 557, 0, 0, 0, 0), some (.ireturn, 558, 0, 0, 0, 0), some (.aload_n 1, 559, 0, 0, 0, 0), some (.aload_n 0, 560, 0, 0, 0, 0), some (.iload_n 3, 561, 0, 0, 0, 0), some (.iconst 1, 562, 0, 0, 0, 1), some (.iadd, 563, 0, 0, 0, 0), some (.iaload, 564, 0, 0, 0, 0), some (.aload_n 0, 565, 0, 0, 0, 0), some (.iload_n 3, 566, 0, 0, 0, 0), some (.iconst 2, 567, 0, 0, 0, 2), some (.iadd, 568, 0, 0, 0, 0), some (.iaload, 569, 0, 0, 0, 0), some (.aload_n 0, 570, 0, 0, 0, 0), some (.iload_n 3, 571, 0, 0, 0, 0), some (.iconst 3, 572, 0, 0, 0, 3), some (.iadd, 573, 0, 0, 0, 0), some (.iaload, 574, 0, 0, 0, 0), some (.aload_n 0, 575, 0, 0, 0, 0), some (.iload_n 3, 576, 0, 0, 0, 0), some (.iconst 4, 577, 0, 0, 0, 4), some (.iadd, 578, 0, 0, 0, 0), some (.iaload, 579, 0, 0, 0, 0), some (.invokevirtual 59, 582, 20, 69, 4, 0), none, none, some (.aload_n 2, 583, 0, 0, 0, 0), some (.aload_n 0, 584, 0, 0, 0, 0), some (.iload_n 3, 585, 0, 0, 0, 0), some (.iconst 1, 586, 0, 0, 0, 1), some (.iadd, 587, 0, 0, 0, 0), some (.iaload, 588, 0, 0, 0, 0), some (.aload_n 0, 589, 0, 0, 0, 0), some (.iload_n 3, 590, 0, 0, 0, 0), some (.iconst 2, 591, 0, 0, 0, 2), some (.iadd, 592, 0, 0, 0, 0), some (.iaload, 593, 0, 0, 0, 0), some (.aload_n 0, 594, 0, 0, 0, 0), some (.iload_n 3, 595, 0, 0, 0, 0), some (.iconst 3, 596, 0, 0, 0, 3), some (.iadd, 597, 0, 0, 0, 0), some (.iaload, 598, 0, 0, 0, 0), some (.aload_n 0, 599, 0, 0, 0, 0), some (.iload_n 3, 600, 0, 0, 0, 0), some (.iconst 4, 601, 0, 0, 0, 4), some (.iadd, 602, 0, 0, 0, 0), some (.iaload, 603, 0, 0, 0, 0), some (.invokevirtual 63, 606, 20, 138, 4, 0), none, none, some (.if_icmp .eq 822, 609, 0, 1428, 0, 0), none, none, some (.iconst 0, 610, 0, 0, 0, 0), some (.ireturn, 611, 0, 0, 0, 0), some (.aload_n 1, 612, 0, 0, 0, 0), some (.aload_n 0, 613, 0, 0, 0, 0), some (.iload_n 3, 614, 0, 0, 0, 0), some (.iconst 1, 615, 0, 0, 0, 1), some (.iadd, 616, 0, 0, 0, 0), some (.iaload, 617, 0, 0, 0, 0), some (.invokevirtual 64, 620, 20, 70, 1, 0), none, none, some (.aload_n 2, 621, 0, 0, 0, 0), some (.aload_n 0, 622, 0, 0, 0, 0), some (.iload_n 3, 623, 0, 0, 0, 0), some (.iconst 1, 624, 0, 0, 0, 1), some (.iadd, 625, 0, 0, 0, 0), some (.iaload, 626, 0, 0, 0, 0), some (.invokevirtual 67, 629, 20, 148, 1, 0), none, none, some (.if_icmp .eq 799, 632, 0, 1428, 0, 0), none, none, some (.iconst 0, 633, 0, 0, 0, 0), some (.ireturn, 634, 0, 0, 0, 0), some (.aload_n 1, 635, 0, 0, 0, 0), some (.aload_n 0, 636, 0, 0, 0, 0), some (.iload_n 3, 637, 0, 0, 0, 0), some (.iconst 1, 638, 0, 0, 0, 1), some (.iadd, 639, 0, 0, 0, 0), some (.iaload, 640, 0, 0, 0, 0)]
noncomputable def tb_190_5 : List (Option RI) := [some (.invokevirtual 68, 643, 20, 72, 1, 0), none, none, some (.aload_n 2, 644, 0, 0, 0, 0), some (.aload_n 0, 645, 0, 0, 0, 0), some (.iload_n 3, 646, 0, 0, 0, 0), some (.iconst 1, 647, 0, 0, 0, 1), some (.iadd, 648, 0, 0, 0, 0), some (.iaload, 649, 0, 0, 0, 0), some (.invokevirtual 71, 652, 20, 150, 1, 0), none, none, some (.if_icmp .eq 776, 655, 0, 1428, 0, 0), none, none, some (.iconst 0, 656, 0, 0, 0, 0), some (.ireturn, 657, 0, 0, 0, 0), some (.aload_n 1, 658, 0, 0, 0, 0), some (.invokevirtual 72, 661, 20, 73, 0, 0), none, none, some (.aload_n 2, 662, 0, 0, 0, 0), some (.invokevirtual 76, 665, 20, 151, 0, 0), none, none, some (.if_icmp .eq 763, 668, 0, 1428, 0, 0), none, none, some (.iconst 0, 669, 0, 0, 0, 0), some (.ireturn, 670, 0, 0, 0, 0), some (.aload_n 1, 671, 0, 0, 0, 0), some (.aload_n 0, 672, 0, 0, 0, 0), some (.iload_n 3, 673, 0, 0, 0, 0), some (.iconst 1, 674, 0, 0, 0, 1), some (.iadd, 675, 0, 0, 0, 0), some (.iaload, 676, 0, 0, 0, 0), some (.aload_n 0, 677, 0, 0, 0, 0), some (.iload_n 3, 678, 0, 0, 0, 0), some (.iconst 2, 679, 0, 0, 0, 2), some (.iadd, 680, 0, 0, 0, 0), some (.iaload, 681, 0, 0, 0, 0), some (.aload_n 0, 682, 0, 0, 0, 0), some (.iload_n 3, 683, 0, 0, 0, 0), some (.iconst 3, 684, 0, 0, 0, 3), some (.iadd, 685, 0, 0, 0, 0), some (.iaload, 686, 0, 0, 0, 0), some (.invokevirtual 77, 689, 20, 75, 3, 0), none, none, some (.aload_n 2, 690, 0, 0, 0, 0), some (.aload_n 0, 691, 0, 0, 0, 0), some (.iload_n 3, 692, 0, 0, 0, 0), some (.iconst 1, 693, 0, 0, 0, 1), some (.iadd, 694, 0, 0, 0, 0), some (.iaload, 695, 0, 0, 0, 0), some (.aload_n 0, 696, 0, 0, 0, 0), some (.iload_n 3, 697, 0, 0, 0, 0), some (.iconst 2, 698, 0, 0, 0, 2), some (.iadd, 699, 0, 0, 0, 0), some (.iaload, 700, 0, 0, 0, 0), some (.aload_n 0, 701, 0, 0, 0, 0), some (.iload_n 3, 702, 0, 0, 0, 0), some (.iconst 3, 703, 0, 0, 0, 3), some (.iadd, 704, 0, 0, 0, 0), some (.iaload, 705, 0, 0, 0, 0), some (.invokevirtual 80, 708, 20, 152, 3, 0), none, none, some (.if_icmp .eq 720, 711, 0, 1428, 0, 0), none, none, some (.iconst 0, 712, 0, 0, 0, 0), some (.ireturn, 713, 0, 0, 0, 0), some (.aload_n 1, 714, 0, 0, 0, 0), some (.aload_n 0, 715, 0, 0, 0, 0), some (.iload_n 3, 716, 0, 0, 0, 0), some (.iconst 1, 717, 0, 0, 0, 1), some (.iadd, 718, 0, 0, 0, 0), some (.iaload, 719, 0, 0, 0, 0), some (.invokevirtual 81, 722, 20, 76, 1, 0), none, none, some (.aload_n 2, 723, 0, 0, 0, 0), some (.aload_n 0, 724, 0, 0, 0, 0), some (.iload_n 3, 725, 0, 0, 0, 0), some (.iconst 1, 726, 0, 0, 0, 1), some (.iadd, 727, 0, 0, 0, 0), some (.iaload, 728, 0, 0, 0, 0), some (.invokevirtual 84, 731, 20, 153, 1, 0), none, none, some (.if_icmp .eq 697, 734, 0, 1428, 0, 0), none, none, some (.iconst 0, 735, 0, 0, 0, 0), some (.ireturn, 736, 0, 0, 0, 0), some (.aload_n 1, 737, 0, 0, 0, 0), some (.invokevirtual 85, 740, 20, 77, 0, 0), none, none, some (.aload_n 2, 741, 0, 0, 0, 0), some (.invokevirtual 88, 744, 20, 156, 0, 0), none, none, some (.if_icmp .eq 684, 747, 0, 1428, 0, 0), none, none, some (.iconst 0, 748, 0, 0, 0, 0), some (.ireturn, 749, 0, 0, 0, 0), some (.aload_n 1, 750, 0, 0, 0, 0), some (.aload_n 0, 751, 0, 0, 0, 0), some (.iload_n 3, 752, 0, 0, 0, 0), some (.iconst 1, 753, 0, 0, 0, 1), some (.iadd, 754, 0, 0, 0, 0), some (.iaload, 755, 0, 0, 0, 0), some (.aload_n 0, 756, 0, 0, 0, 0), some (.iload_n 3, 757, 0, 0, 0, 0), some (.iconst 2, 758, 0, 0, 0, 2), some (.iadd, 759, 0, 0, 0, 0), some (.iaload, 760, 0, 0, 0, 0), some (.invokevirtual 89, 763, 20, 78, 2, 0), none, none, some (.aload_n 2, 764, 0, 0, 0, 0), some (.aload_n 0, 765, 0, 0, 0, 0), some (.iload_n 3, 766, 0, 0, 0, 0), some (.iconst 1, 767, 0, 0, 0, 1), some (.iadd, 768, 0, 0, 0, 0)]
noncomputable def tb_190_6 : List (Option RI) := [some (.iaload, 769, 0, 0, 0, 0), some (.aload_n 0, 770, 0, 0, 0, 0), some (.iload_n 3, 771, 0, 0, 0, 0), some (.iconst 2, 772, 0, 0, 0, 2), some (.iadd, 773, 0, 0, 0, 0), some (.iaload, 774, 0, 0, 0, 0), some (.invokevirtual 92, 777, 20, 158, 2, 0), none, none, some (.if_icmp .eq 651, 780, 0, 1428, 0, 0), none, none, some (.iconst 0, 781, 0, 0, 0, 0), some (.ireturn, 782, 0, 0, 0, 0), some (.aload_n 1, 783, 0, 0, 0, 0), some (.aload_n 0, 784, 0, 0, 0, 0), some (.iload_n 3, 785, 0, 0, 0, 0), some (.iconst 1, 786, 0, 0, 0, 1), some (.iadd, 787, 0, 0, 0, 0), some (.iaload, 788, 0, 0, 0, 0), some (.aload_n 0, 789, 0, 0, 0, 0), some (.iload_n 3, 790, 0, 0, 0, 0), some (.iconst 2, 791, 0, 0, 0, 2), some (.iadd, 792, 0, 0, 0, 0), some (.iaload, 793, 0, 0, 0, 0), some (.invokevirtual 93, 796, 20, 80, 2, 0), none, none, some (.aload_n 2, 797, 0, 0, 0, 0), some (.aload_n 0, 798, 0, 0, 0, 0), some (.iload_n 3, 799, 0, 0, 0, 0), some (.iconst 1, 800, 0, 0, 0, 1), some (.iadd, 801, 0, 0, 0, 0), some (.iaload, 802, 0, 0, 0, 0), some (.aload_n 0, 803, 0, 0, 0, 0), some (.iload_n 3, 804, 0, 0, 0, 0), some (.iconst 2, 805, 0, 0, 0, 2), some (.iadd, 806, 0, 0, 0, 0), some (.iaload, 807, 0, 0, 0, 0), some (.invokevirtual 96, 810, 20, 159, 2, 0), none, none, some (.if_icmp .eq 618, 813, 0, 1428, 0, 0), none, none, some (.iconst 0, 814, 0, 0, 0, 0), some (.ireturn, 815, 0, 0, 0, 0), some (.aload_n 1, 816, 0, 0, 0, 0), some (.aload_n 0, 817, 0, 0, 0, 0), some (.iload_n 3, 818, 0, 0, 0, 0), some (.iconst 1, 819, 0, 0, 0, 1), some (.iadd, 820, 0, 0, 0, 0), some (.iaload, 821, 0, 0, 0, 0), some (.aload_n 0, 822, 0, 0, 0, 0), some (.iload_n 3, 823, 0, 0, 0, 0), some (.iconst 2, 824, 0, 0, 0, 2), some (.iadd, 825, 0, 0, 0, 0), some (.iaload, 826, 0, 0, 0, 0), some (.invokevirtual 97, 829, 20, 82, 2, 0), none, none, some (.aload_n 2, 830, 0, 0, 0, 0), some (.aload_n 0, 831, 0, 0, 0, 0), some (.iload_n 3, 832, 0, 0, 0, 0), some (.iconst 1, 833, 0, 0, 0, 1), some (.iadd, 834, 0, 0, 0, 0), some (.iaload, 835, 0, 0, 0, 0), some (.aload_n 0, 836, 0, 0, 0, 0), some (.iload_n 3, 837, 0, 0, 0, 0), some (.iconst 2, 838, 0, 0, 0, 2), some (.iadd, 839, 0, 0, 0, 0), some (.iaload, 840, 0, 0, 0, 0), some (.invokevirtual 100, 843, 20, 162, 2, 0), none, none, some (.if_icmp .eq 585, 846, 0, 1428, 0, 0), none, none, some (.iconst 0, 847, 0, 0, 0, 0), some (.ireturn, 848, 0, 0, 0, 0), some (.aload_n 1, 849, 0, 0, 0, 0), some (.aload_n 0, 850, 0, 0, 0, 0), some (.iload_n 3, 851, 0, 0, 0, 0), some (.iconst 1, 852, 0, 0, 0, 1), some (.iadd, 853, 0, 0, 0, 0), some (.iaload, 854, 0, 0, 0, 0), some (.invokevirtual 101, 857, 20, 83, 1, 0), none, none, some (.aload_n 2, 858, 0, 0, 0, 0), some (.aload_n 0, 859, 0, 0, 0, 0), some (.iload_n 3, 860, 0, 0, 0, 0), some (.iconst 1, 861, 0, 0, 0, 1), some (.iadd, 862, 0, 0, 0, 0), some (.iaload, 863, 0, 0, 0, 0), some (.invokevirtual 104, 866, 20, 163, 1, 0), none, none, some (.if_icmp .eq 562, 869, 0, 1428, 0, 0), none, none, some (.iconst 0, 870, 0, 0, 0, 0), some (.ireturn, 871, 0, 0, 0, 0), some (.aload_n 1, 872, 0, 0, 0, 0), some (.aload_n 0, 873, 0, 0, 0, 0), some (.iload_n 3, 874, 0, 0, 0, 0), some (.iconst 1, 875, 0, 0, 0, 1), some (.iadd, 876, 0, 0, 0, 0), some (.iaload, 877, 0, 0, 0, 0), some (.aload_n 0, 878, 0, 0, 0, 0), some (.iload_n 3, 879, 0, 0, 0, 0), some (.iconst 2, 880, 0, 0, 0, 2), some (.iadd, 881, 0, 0, 0, 0), some (.iaload, 882, 0, 0, 0, 0), some (.invokevirtual 105, 885, 20, 84, 2, 0), none, none, some (.aload_n 2, 886, 0, 0, 0, 0), some (.aload_n 0, 887, 0, 0, 0, 0), some (.iload_n 3, 888, 0, 0, 0, 0), some (.iconst 1, 889, 0, 0, 0, 1), some (.iadd, 890, 0, 0, 0, 0), some (.iaload, 891, 0, 0, 0, 0), some (.aload_n 0, 892, 0, 0, 0, 0), some (.iload_n 3, 893, 0, 0, 0, 0), some (.iconst 2, 894, 0, 0, 0, 2), some (.iadd, 895, 0, 0, 0, 0), some (.iaload, 896, 0, 0, 0, 0)]
noncomputable def tb_190_7 : List (Option RI) := [some (.invokevirtual 108, 899, 20, 164, 2, 0), none, none, some (.if_icmp .eq 529, 902, 0, 1428, 0, 0), none, none, some (.iconst 0, 903, 0, 0, 0, 0), some (.ireturn, 904, 0, 0, 0, 0), some (.aload_n 1, 905, 0, 0, 0, 0), some (.aload_n 0, 906, 0, 0, 0, 0), some (.iload_n 3, 907, 0, 0, 0, 0), some (.iconst 1, 908, 0, 0, 0, 1), some (.iadd, 909, 0, 0, 0, 0), some (.iaload, 910, 0, 0, 0, 0), some (.aload_n 0, 911, 0, 0, 0, 0), some (.iload_n 3, 912, 0, 0, 0, 0), some (.iconst 2, 913, 0, 0, 0, 2), some (.iadd, 914, 0, 0, 0, 0), some (.iaload, 915, 0, 0, 0, 0), some (.invokevirtual 109, 918, 20, 85, 2, 0), none, none, some (.aload_n 2, 919, 0, 0, 0, 0), some (.aload_n 0, 920, 0, 0, 0, 0), some (.iload_n 3, 921, 0, 0, 0, 0), some (.iconst 1, 922, 0, 0, 0, 1), some (.iadd, 923, 0, 0, 0, 0), some (.iaload, 924, 0, 0, 0, 0), some (.aload_n 0, 925, 0, 0, 0, 0), some (.iload_n 3, 926, 0, 0, 0, 0), some (.iconst 2, 927, 0, 0, 0, 2), some (.iadd, 928, 0, 0, 0, 0), some (.iaload, 929, 0, 0, 0, 0), some (.invokevirtual 112, 932, 20, 165, 2, 0), none, none, some (.if_icmp .eq 496, 935, 0, 1428, 0, 0), none, none, some (.iconst 0, 936, 0, 0, 0, 0), some (.ireturn, 937, 0, 0, 0, 0), some (.aload_n 1, 938, 0, 0, 0, 0), some (.aload_n 0, 939, 0, 0, 0, 0), some (.iload_n 3, 940, 0, 0, 0, 0), some (.iconst 1, 941, 0, 0, 0, 1), some (.iadd, 942, 0, 0, 0, 0), some (.iaload, 943, 0, 0, 0, 0), some (.aload_n 0, 944, 0, 0, 0, 0), some (.iload_n 3, 945, 0, 0, 0, 0), some (.iconst 2, 946, 0, 0, 0, 2), some (.iadd, 947, 0, 0, 0, 0), some (.iaload, 948, 0, 0, 0, 0), some (.invokevirtual 113, 951, 20, 86, 2, 0), none, none, some (.aload_n 2, 952, 0, 0, 0, 0), some (.aload_n 0, 953, 0, 0, 0, 0), some (.iload_n 3, 954, 0, 0, 0, 0), some (.iconst 1, 955, 0, 0, 0, 1), some (.iadd, 956, 0, 0, 0, 0), some (.iaload, 957, 0, 0, 0, 0), some (.aload_n 0, 958, 0, 0, 0, 0), some (.iload_n 3, 959, 0, 0, 0, 0), some (.iconst 2, 960, 0, 0, 0, 2), some (.iadd, 961, 0, 0, 0, 0), some (.iaload, 962, 0, 0, 0, 0), some (.invokevirtual 116, 965, 20, 166, 2, 0), none, none, some (.if_icmp .eq 463, 968, 0, 1428, 0, 0), none, none, some (.iconst 0, 969, 0, 0, 0, 0), some (.ireturn, 970, 0, 0, 0, 0), some (.aload_n 1, 971, 0, 0, 0, 0), some (.aload_n 0, 972, 0, 0, 0, 0), some (.iload_n 3, 973, 0, 0, 0, 0), some (.iconst 1, 974, 0, 0, 0, 1), some (.iadd, 975, 0, 0, 0, 0), some (.iaload, 976, 0, 0, 0, 0), some (.invokevirtual 117, 979, 20, 87, 1, 0), none, none, some (.aload_n 2, 980, 0, 0, 0, 0), some (.aload_n 0, 981, 0, 0, 0, 0), some (.iload_n 3, 982, 0, 0, 0, 0), some (.iconst 1, 983, 0, 0, 0, 1), some (.iadd, 984, 0, 0, 0, 0), some (.iaload, 985, 0, 0, 0, 0), some (.invokevirtual 120, 988, 20, 167, 1, 0), none, none, some (.if_icmp .eq 440, 991, 0, 1428, 0, 0), none, none, some (.iconst 0, 992, 0, 0, 0, 0), some (.ireturn, 993, 0, 0, 0, 0), some (.aload_n 1, 994, 0, 0, 0, 0), some (.aload_n 0, 995, 0, 0, 0, 0), some (.iload_n 3, 996, 0, 0, 0, 0), some (.iconst 1, 997, 0, 0, 0, 1), some (.iadd, 998, 0, 0, 0, 0), some (.iaload, 999, 0, 0, 0, 0), some (.aload_n 0, 1000, 0, 0, 0, 0), some (.iload_n 3, 1001, 0, 0, 0, 0), some (.iconst 2, 1002, 0, 0, 0, 2), some (.iadd, 1003, 0, 0, 0, 0), some (.iaload, 1004, 0, 0, 0, 0), some (.aload_n 0, 1005, 0, 0, 0, 0), some (.iload_n 3, 1006, 0, 0, 0, 0), some (.iconst 3, 1007, 0, 0, 0, 3), some (.iadd, 1008, 0, 0, 0, 0), some (.iaload, 1009, 0, 0, 0, 0), some (.invokevirtual 121, 1012, 20, 89, 3, 0), none, none, some (.aload_n 2, 1013, 0, 0, 0, 0), some (.aload_n 0, 1014, 0, 0, 0, 0), some (.iload_n 3, 1015, 0, 0, 0, 0), some (.iconst 1, 1016, 0, 0, 0, 1), some (.iadd, 1017, 0, 0, 0, 0), some (.iaload, 1018, 0, 0, 0, 0), some (.aload_n 0, 1019, 0, 0, 0, 0), some (.iload_n 3, 1020, 0, 0, 0, 0), some (.iconst 2, 1021, 0, 0, 0, 2), some (.iadd, 1022, 0, 0, 0, 0), some (.iaload, 1023, 0, 0, 0, 0), some (.aload_n 0, 1024, 0, 0, 0, 0)]
noncomputable def tb_190_8 : List (Option RI) := [some (.iload_n 3, 1025, 0, 0, 0, 0), some (.iconst 3, 1026, 0, 0, 0, 3), some (.iadd, 1027, 0, 0, 0, 0), some (.iaload, 1028, 0, 0, 0, 0), some (.invokevirtual 124, 1031, 20, 169, 3, 0), none, none, some (.if_icmp .eq 397, 1034, 0, 1428, 0, 0), none, none, some (.iconst 0, 1035, 0, 0, 0, 0), some (.ireturn, 1036, 0, 0, 0, 0), some (.aload_n 1, 1037, 0, 0, 0, 0), some (.aload_n 0, 1038, 0, 0, 0, 0), some (.iload_n 3, 1039, 0, 0, 0, 0), some (.iconst 1, 1040, 0, 0, 0, 1), some (.iadd, 1041, 0, 0, 0, 0), some (.iaload, 1042, 0, 0, 0, 0), some (.invokevirtual 125, 1045, 20, 90, 1, 0), none, none, some (.aload_n 2, 1046, 0, 0, 0, 0), some (.aload_n 0, 1047, 0, 0, 0, 0), some (.iload_n 3, 1048, 0, 0, 0, 0), some (.iconst 1, 1049, 0, 0, 0, 1), some (.iadd, 1050, 0, 0, 0, 0), some (.iaload, 1051, 0, 0, 0, 0), some (.invokevirtual 128, 1054, 20, 170, 1, 0), none, none, some (.if_icmp .eq 374, 1057, 0, 1428, 0, 0), none, none, some (.iconst 0, 1058, 0, 0, 0, 0), some (.ireturn, 1059, 0, 0, 0, 0), some (.aload_n 1, 1060, 0, 0, 0, 0), some (.aload_n 0, 1061, 0, 0, 0, 0), some (.iload_n 3, 1062, 0, 0, 0, 0), some (.iconst 1, 1063, 0, 0, 0, 1), some (.iadd, 1064, 0, 0, 0, 0), some (.iaload, 1065, 0, 0, 0, 0), some (.aload_n 0, 1066, 0, 0, 0, 0), some (.iload_n 3, 1067, 0, 0, 0, 0), some (.iconst 2, 1068, 0, 0, 0, 2), some (.iadd, 1069, 0, 0, 0, 0), some (.iaload, 1070, 0, 0, 0, 0), some (.aload_n 0, 1071, 0, 0, 0, 0), some (.iload_n 3, 1072, 0, 0, 0, 0), some (.iconst 3, 1073, 0, 0, 0, 3), some (.iadd, 1074, 0, 0, 0, 0), some (.iaload, 1075, 0, 0, 0, 0), some (.invokevirtual 129, 1078, 20, 93, 3, 0), none, none, some (.aload_n 2, 1079, 0, 0, 0, 0), some (.aload_n 0, 1080, 0, 0, 0, 0), some (.iload_n 3, 1081, 0, 0, 0, 0), some (.iconst 1, 1082, 0, 0, 0, 1), some (.iadd, 1083, 0, 0, 0, 0), some (.iaload, 1084, 0, 0, 0, 0), some (.aload_n 0, 1085, 0, 0, 0, 0), some (.iload_n 3, 1086, 0, 0, 0, 0), some (.iconst 2, 1087, 0, 0, 0, 2), some (.iadd, 1088, 0, 0, 0, 0), some (.iaload, 1089, 0, 0, 0, 0), some (.aload_n 0, 1090, 0, 0, 0, 0), some (.iload_n 3, 1091, 0, 0, 0, 0), some (.iconst 3, 1092, 0, 0, 0, 3), some (.iadd, 1093, 0, 0, 0, 0), some (.iaload, 1094, 0, 0, 0, 0), some (.invokevirtual 132, 1097, 20, 176, 3, 0), none, none, some (.if_icmp .eq 331, 1100, 0, 1428, 0, 0), none, none, some (.iconst 0, 1101, 0, 0, 0, 0), some (.ireturn, 1102, 0, 0, 0, 0), some (.aload_n 1, 1103, 0, 0, 0, 0), some (.aload_n 0, 1104, 0, 0, 0, 0), some (.iload_n 3, 1105, 0, 0, 0, 0), some (.iconst 1, 1106, 0, 0, 0, 1), some (.iadd, 1107, 0, 0, 0, 0), some (.iaload, 1108, 0, 0, 0, 0), some (.invokevirtual 133, 1111, 20, 94, 1, 0), none, none, some (.aload_n 2, 1112, 0, 0, 0, 0), some (.aload_n 0, 1113, 0, 0, 0, 0), some (.iload_n 3, 1114, 0, 0, 0, 0), some (.iconst 1, 1115, 0, 0, 0, 1), some (.iadd, 1116, 0, 0, 0, 0), some (.iaload, 1117, 0, 0, 0, 0), some (.invokevirtual 136, 1120, 20, 177, 1, 0), none, none, some (.if_icmp .eq 308, 1123, 0, 1428, 0, 0), none, none, some (.iconst 0, 1124, 0, 0, 0, 0), some (.ireturn, 1125, 0, 0, 0, 0), some (.aload_n 1, 1126, 0, 0, 0, 0), some (.aload_n 0, 1127, 0, 0, 0, 0), some (.iload_n 3, 1128, 0, 0, 0, 0), some (.iconst 1, 1129, 0, 0, 0, 1), some (.iadd, 1130, 0, 0, 0, 0), some (.iaload, 1131, 0, 0, 0, 0), some (.aload_n 0, 1132, 0, 0, 0, 0), some (.iload_n 3, 1133, 0, 0, 0, 0), some (.iconst 2, 1134, 0, 0, 0, 2), some (.iadd, 1135, 0, 0, 0, 0), some (.iaload, 1136, 0, 0, 0, 0), some (.aload_n 0, 1137, 0, 0, 0, 0), some (.iload_n 3, 1138, 0, 0, 0, 0), some (.iconst 3, 1139, 0, 0, 0, 3), some (.iadd, 1140, 0, 0, 0, 0), some (.iaload, 1141, 0, 0, 0, 0), some (.invokevirtual 137, 1144, 20, 95, 3, 0), none, none, some (.aload_n 2, 1145, 0, 0, 0, 0), some (.aload_n 0, 1146, 0, 0, 0, 0), some (.iload_n 3, 1147, 0, 0, 0, 0), some (.iconst 1, 1148, 0, 0, 0, 1), some (.iadd, 1149, 0, 0, 0, 0), some (.iaload, 1150, 0, 0, 0, 0), some (.aload_n 0, 1151, 0, 0, 0, 0), some (.iload_n 3, 1152, 0, 0, 0, 0)]
noncomputable def tb_190_9 : List (Option RI) := [some (.iconst 2, 1153, 0, 0, 0, 2), some (.iadd, 1154, 0, 0, 0, 0), some (.iaload, 1155, 0, 0, 0, 0), some (.aload_n 0, 1156, 0, 0, 0, 0), some (.iload_n 3, 1157, 0, 0, 0, 0), some (.iconst 3, 1158, 0, 0, 0, 3), some (.iadd, 1159, 0, 0, 0, 0), some (.iaload, 1160, 0, 0, 0, 0), some (.invokevirtual 140, 1163, 20, 179, 3, 0), none, none, some (.if_icmp .eq 265, 1166, 0, 1428, 0, 0), none, none, some (.iconst 0, 1167, 0, 0, 0, 0), some (.ireturn, 1168, 0, 0, 0, 0), some (.aload_n 1, 1169, 0, 0, 0, 0), some (.aload_n 0, 1170, 0, 0, 0, 0), some (.iload_n 3, 1171, 0, 0, 0, 0), some (.iconst 1, 1172, 0, 0, 0, 1), some (.iadd, 1173, 0, 0, 0, 0), some (.iaload, 1174, 0, 0, 0, 0), some (.aload_n 0, 1175, 0, 0, 0, 0), some (.iload_n 3, 1176, 0, 0, 0, 0), some (.iconst 2, 1177, 0, 0, 0, 2), some (.iadd, 1178, 0, 0, 0, 0), some (.iaload, 1179, 0, 0, 0, 0), some (.aload_n 0, 1180, 0, 0, 0, 0), some (.iload_n 3, 1181, 0, 0, 0, 0), some (.iconst 3, 1182, 0, 0, 0, 3), some (.iadd, 1183, 0, 0, 0, 0), some (.iaload, 1184, 0, 0, 0, 0), some (.invokevirtual 141, 1187, 20, 96, 3, 0), none, none, some (.aload_n 2, 1188, 0, 0, 0, 0), some (.aload_n 0, 1189, 0, 0, 0, 0), some (.iload_n 3, 1190, 0, 0, 0, 0), some (.iconst 1, 1191, 0, 0, 0, 1), some (.iadd, 1192, 0, 0, 0, 0), some (.iaload, 1193, 0, 0, 0, 0), some (.aload_n 0, 1194, 0, 0, 0, 0), some (.iload_n 3, 1195, 0, 0, 0, 0), some (.iconst 2, 1196, 0, 0, 0, 2), some (.iadd, 1197, 0, 0, 0, 0), some (.iaload, 1198, 0, 0, 0, 0), some (.aload_n 0, 1199, 0, 0, 0, 0), some (.iload_n 3, 1200, 0, 0, 0, 0), some (.iconst 3, 1201, 0, 0, 0, 3), some (.iadd, 1202, 0, 0, 0, 0), some (.iaload, 1203, 0, 0, 0, 0), some (.invokevirtual 144, 1206, 20, 180, 3, 0), none, none, some (.if_icmp .eq 222, 1209, 0, 1428, 0, 0), none, none, some (.iconst 0, 1210, 0, 0, 0, 0), some (.ireturn, 1211, 0, 0, 0, 0), some (.aload_n 1, 1212, 0, 0, 0, 0), some (.aload_n 0, 1213, 0, 0, 0, 0), some (.iload_n 3, 1214, 0, 0, 0, 0), some (.iconst 1, 1215, 0, 0, 0, 1), some (.iadd, 1216, 0, 0, 0, 0), some (.iaload, 1217, 0, 0, 0, 0), some (.aload_n 0, 1218, 0, 0, 0, 0), some (.iload_n 3, 1219, 0, 0, 0, 0), some (.iconst 2, 1220, 0, 0, 0, 2), some (.iadd, 1221, 0, 0, 0, 0), some (.iaload, 1222, 0, 0, 0, 0), some (.aload_n 0, 1223, 0, 0, 0, 0), some (.iload_n 3, 1224, 0, 0, 0, 0), some (.iconst 3, 1225, 0, 0, 0, 3), some (.iadd, 1226, 0, 0, 0, 0), some (.iaload, 1227, 0, 0, 0, 0), some (.aload_n 0, 1228, 0, 0, 0, 0), some (.iload_n 3, 1229, 0, 0, 0, 0), some (.iconst 4, 1230, 0, 0, 0, 4), some (.iadd, 1231, 0, 0, 0, 0), some (.iaload, 1232, 0, 0, 0, 0), some (.aload_n 0, 1233, 0, 0, 0, 0), some (.iload_n 3, 1234, 0, 0, 0, 0), some (.iconst 5, 1235, 0, 0, 0, 5), some (.iadd, 1236, 0, 0, 0, 0), some (.iaload, 1237, 0, 0, 0, 0), some (.invokevirtual 145, 1240, 20, 97, 5, 0), none, none, some (.aload_n 2, 1241, 0, 0, 0, 0), some (.aload_n 0, 1242, 0, 0, 0, 0), some (.iload_n 3, 1243, 0, 0, 0, 0), some (.iconst 1, 1244, 0, 0, 0, 1), some (.iadd, 1245, 0, 0, 0, 0), some (.iaload, 1246, 0, 0, 0, 0), some (.aload_n 0, 1247, 0, 0, 0, 0), some (.iload_n 3, 1248, 0, 0, 0, 0), some (.iconst 2, 1249, 0, 0, 0, 2), some (.iadd, 1250, 0, 0, 0, 0), some (.iaload, 1251, 0, 0, 0, 0), some (.aload_n 0, 1252, 0, 0, 0, 0), some (.iload_n 3, 1253, 0, 0, 0, 0), some (.iconst 3, 1254, 0, 0, 0, 3), some (.iadd, 1255, 0, 0, 0, 0), some (.iaload, 1256, 0, 0, 0, 0), some (.aload_n 0, 1257, 0, 0, 0, 0), some (.iload_n 3, 1258, 0, 0, 0, 0), some (.iconst 4, 1259, 0, 0, 0, 4), some (.iadd, 1260, 0, 0, 0, 0), some (.iaload, 1261, 0, 0, 0, 0), some (.aload_n 0, 1262, 0, 0, 0, 0), some (.iload_n 3, 1263, 0, 0, 0, 0), some (.iconst 5, 1264, 0, 0, 0, 5), some (.iadd, 1265, 0, 0, 0, 0), some (.iaload, 1266, 0, 0, 0, 0), some (.invokevirtual 149, 1269, 20, 181, 5, 0), none, none, some (.if_icmp .eq 159, 1272, 0, 1428, 0, 0), none, none, some (.iconst 0, 1273, 0, 0, 0, 0), some (.ireturn, 1274, 0, 0, 0, 0), some (.aload_n 1, 1275, 0, 0, 0, 0), some (.aload_n 0, 1276, 0, 0, 0, 0), some (.iload_n 3, 1277, 0, 0, 0, 0), some (.iconst 1, 1278, 0, 0, 0, 1), some (.iadd, 1279, 0, 0, 0, 0), some (.iaload, 1280, 0, 0, 0, 0)]
noncomputable def tb_190_10 : List (Option RI) := [some (.invokevirtual 150, 1283, 20, 98, 1, 0), none, none, some (.aload_n 2, 1284, 0, 0, 0, 0), some (.aload_n 0, 1285, 0, 0, 0, 0), some (.iload_n 3, 1286, 0, 0, 0, 0), some (.iconst 1, 1287, 0, 0, 0, 1), some (.iadd, 1288, 0, 0, 0, 0), some (.iaload, 1289, 0, 0, 0, 0), some (.invokevirtual 153, 1292, 20, 182, 1, 0), none, none, some (.if_icmp .eq 136, 1295, 0, 1428, 0, 0), none, none, some (.iconst 0, 1296, 0, 0, 0, 0), some (.ireturn, 1297, 0, 0, 0, 0), some (.aload_n 1, 1298, 0, 0, 0, 0), some (.aload_n 0, 1299, 0, 0, 0, 0), some (.iload_n 3, 1300, 0, 0, 0, 0), some (.iconst 1, 1301, 0, 0, 0, 1), some (.iadd, 1302, 0, 0, 0, 0), some (.iaload, 1303, 0, 0, 0, 0), some (.invokevirtual 154, 1306, 20, 99, 1, 0), none, none, some (.aload_n 2, 1307, 0, 0, 0, 0), some (.aload_n 0, 1308, 0, 0, 0, 0), some (.iload_n 3, 1309, 0, 0, 0, 0), some (.iconst 1, 1310, 0, 0, 0, 1), some (.iadd, 1311, 0, 0, 0, 0), some (.iaload, 1312, 0, 0, 0, 0), some (.invokevirtual 157, 1315, 20, 183, 1, 0), none, none, some (.if_icmp .eq 113, 1318, 0, 1428, 0, 0), none, none, some (.iconst 0, 1319, 0, 0, 0, 0), some (.ireturn, 1320, 0, 0, 0, 0), some (.aload_n 1, 1321, 0, 0, 0, 0), some (.invokevirtual 158, 1324, 20, 100, 0, 0), none, none, some (.aload_n 2, 1325, 0, 0, 0, 0), some (.invokevirtual 161, 1328, 20, 184, 0, 0), none, none, some (.if_icmp .eq 100, 1331, 0, 1428, 0, 0), none, none, some (.iconst 0, 1332, 0, 0, 0, 0), some (.ireturn, 1333, 0, 0, 0, 0), some (.aload_n 1, 1334, 0, 0, 0, 0), some (.invokevirtual 162, 1337, 20, 101, 0, 0), none, none, some (.aload_n 2, 1338, 0, 0, 0, 0), some (.invokevirtual 165, 1341, 20, 185, 0, 0), none, none, some (.if_icmp .eq 87, 1344, 0, 1428, 0, 0), none, none, some (.iconst 0, 1345, 0, 0, 0, 0), some (.ireturn, 1346, 0, 0, 0, 0), some (.aload_n 1, 1347, 0, 0, 0, 0), some (.aload_n 0, 1348, 0, 0, 0, 0), some (.iload_n 3, 1349, 0, 0, 0, 0), some (.iconst 1, 1350, 0, 0, 0, 1), some (.iadd, 1351, 0, 0, 0, 0), some (.iaload, 1352, 0, 0, 0, 0), some (.invokevirtual 166, 1355, 20, 102, 1, 0), none, none, some (.aload_n 2, 1356, 0, 0, 0, 0), some (.aload_n 0, 1357, 0, 0, 0, 0), some (.iload_n 3, 1358, 0, 0, 0, 0), some (.iconst 1, 1359, 0, 0, 0, 1), some (.iadd, 1360, 0, 0, 0, 0), some (.iaload, 1361, 0, 0, 0, 0), some (.invokevirtual 169, 1364, 20, 186, 1, 0), none, none, some (.if_icmp .eq 64, 1367, 0, 1428, 0, 0), none, none, some (.iconst 0, 1368, 0, 0, 0, 0), some (.ireturn, 1369, 0, 0, 0, 0), some (.aload_n 1, 1370, 0, 0, 0, 0), some (.invokevirtual 170, 1373, 20, 103, 0, 0), none, none, some (.aload_n 2, 1374, 0, 0, 0, 0), some (.invokevirtual 173, 1377, 20, 187, 0, 0), none, none, some (.if_icmp .eq 51, 1380, 0, 1428, 0, 0), none, none, some (.iconst 0, 1381, 0, 0, 0, 0), some (.ireturn, 1382, 0, 0, 0, 0), some (.aload_n 1, 1383, 0, 0, 0, 0), some (.aload_n 0, 1384, 0, 0, 0, 0), some (.iload_n 3, 1385, 0, 0, 0, 0), some (.iconst 1, 1386, 0, 0, 0, 1), some (.iadd, 1387, 0, 0, 0, 0), some (.iaload, 1388, 0, 0, 0, 0), some (.invokevirtual 174, 1391, 20, 104, 1, 0), none, none, some (.aload_n 2, 1392, 0, 0, 0, 0), some (.aload_n 0, 1393, 0, 0, 0, 0), some (.iload_n 3, 1394, 0, 0, 0, 0), some (.iconst 1, 1395, 0, 0, 0, 1), some (.iadd, 1396, 0, 0, 0, 0), some (.iaload, 1397, 0, 0, 0, 0), some (.invokevirtual 177, 1400, 20, 188, 1, 0), none, none, some (.if_icmp .eq 28, 1403, 0, 1428, 0, 0), none, none, some (.iconst 0, 1404, 0, 0, 0, 0), some (.ireturn, 1405, 0, 0, 0, 0), some (.aload_n 1, 1406, 0, 0, 0, 0), some (.aload_n 0, 1407, 0, 0, 0, 0), some (.iload_n 3, 1408, 0, 0, 0, 0)]
noncomputable def tb_190_11 : List (Option RI) := [some (.iconst 1, 1409, 0, 0, 0, 1), some (.iadd, 1410, 0, 0, 0, 0), some (.iaload, 1411, 0, 0, 0, 0), some (.invokevirtual 178, 1414, 20, 105, 1, 0), none, none, some (.aload_n 2, 1415, 0, 0, 0, 0), some (.aload_n 0, 1416, 0, 0, 0, 0), some (.iload_n 3, 1417, 0, 0, 0, 0), some (.iconst 1, 1418, 0, 0, 0, 1), some (.iadd, 1419, 0, 0, 0, 0), some (.iaload, 1420, 0, 0, 0, 0), some (.invokevirtual 181, 1423, 20, 189, 1, 0), none, none, some (.if_icmp .eq 5, 1426, 0, 1428, 0, 0), none, none, some (.iconst 0, 1427, 0, 0, 0, 0), some (.ireturn, 1428, 0, 0, 0, 0), some (.iinc 3 6, 1431, 0, 0, 0, 6), none, none, some (.goto (-1413), 1434, 0, 18, 0, 0), none, none, some (.iconst 1, 1435, 0, 0, 0, 1), some (.ireturn, 1436, 0, 0, 0, 0)]
noncomputable def tb_190 : List (Option RI) := tb_190_0 ++ (tb_190_1 ++ (tb_190_2 ++ (tb_190_3 ++ (tb_190_4 ++ (tb_190_5 ++ (tb_190_6 ++ (tb_190_7 ++ (tb_190_8 ++ (tb_190_9 ++ (tb_190_10 ++ (tb_190_11)))))))))))
noncomputable def allT : List (List (Option RI)) := [tb_0, tb_1, tb_2, tb_3, tb_4, tb_5, tb_6, tb_7, tb_8, tb_9, tb_10, tb_11, tb_12, tb_13, tb_14, tb_15, tb_16, tb_17, tb_18, tb_19, tb_20, tb_21, tb_22, tb_23, tb_24, tb_25, tb_26, tb_27, tb_28, tb_29, tb_30, tb_31, tb_32, tb_33, tb_34, tb_35, tb_36, tb_37, tb_38, tb_39, tb_40, tb_41, tb_42, tb_43, tb_44, tb_45, tb_46, tb_47, tb_48, tb_49, tb_50, tb_51, tb_52, tb_53, tb_54, tb_55, tb_56, tb_57, tb_58, tb_59, tb_60, tb_61, tb_62, tb_63, tb_64, tb_65, tb_66, tb_67, tb_68, tb_69, tb_70, tb_71, tb_72, tb_73, tb_74, tb_75, tb_76, tb_77, tb_78, tb_79, tb_80, tb_81, tb_82, tb_83, tb_84, tb_85, tb_86, tb_87, tb_88, tb_89, tb_90, tb_91, tb_92, tb_93, tb_94, tb_95, tb_96, tb_97, tb_98, tb_99, tb_100, tb_101, tb_102, tb_103, tb_104, tb_105, tb_106, tb_107, tb_108, tb_109, tb_110, tb_111, tb_112, tb_113, tb_114, tb_115, tb_116, tb_117, tb_118, tb_119, tb_120, tb_121, tb_122, tb_123, tb_124, tb_125, tb_126, tb_127, tb_128, tb_129, tb_130, tb_131, tb_132, tb_133, tb_134, tb_135, tb_136, tb_137, tb_138, tb_139, tb_140, tb_141, tb_142, tb_143, tb_144, tb_145, tb_146, tb_147, tb_148, tb_149, tb_150, tb_151, tb_152, tb_153, tb_154, tb_155, tb_156, tb_157, tb_158, tb_159, tb_160, tb_161, tb_162, tb_163, tb_164, tb_165, tb_166, tb_167, tb_168, tb_169, tb_170, tb_171, tb_172, tb_173, tb_174, tb_175, tb_176, tb_177, tb_178, tb_179, tb_180, tb_181, tb_182, tb_183, tb_184, tb_185, tb_186, tb_187, tb_188, tb_189, tb_190]
abbrev MD : Type := MethodName × ByteArray × Nat × Option FieldType × Nat × Nat × Nat
/-- a method: its name, its bytes, its locals, what it answers, the number of its class, how many arguments, 0 static 1 of an object 2 a constructor -/
def mdL_0 : List MD := [(yJ0_isLatin1_aae02, cJ0_isLatin1_aae02, 1, (some .boolean), 60, 0, 1), (yJ0_coder_7d493, cJ0_coder_7d493, 1, (some .byte), 60, 0, 1), (yJ0_length_8abf5, cJ0_length_8abf5, 1, (some .int), 60, 0, 1), (yJ0_indexOf_7cf53, cJ0_indexOf_7cf53, 3, (some .int), 60, 2, 1), (yJ0_indexOf_0f7a4, cJ0_indexOf_0f7a4, 2, (some .int), 60, 1, 1), (yJ1_canEncode_9a6ad, cJ1_canEncode_9a6ad, 1, (some .boolean), 61, 1, 0), (yJ1_indexOfChar_4cfef, cJ1_indexOfChar_4cfef, 6, (some .int), 61, 4, 0), (yJ1_indexOf_4cfef, cJ1_indexOf_4cfef, 4, (some .int), 61, 4, 0), (yJ7_copyOf_59c91, cJ7_copyOf_59c91, 3, (some (.array .int)), 62, 2, 0), (yJ7_fill_53178, cJ7_fill_53178, 4, none, 62, 2, 0), (yX0_init, cX0_init, 1, none, 0, 0, 2), (yX0_take, cX0_take, 2, none, 0, 1, 1), (yX0_draw, cX0_draw, 1, (some .int), 0, 0, 1), (yX1_init, cX1_init, 3, none, 1, 2, 2), (yX1_worth, cX1_worth, 10, (some .int), 1, 3, 1), (yX2_init, cX2_init, 2, none, 2, 1, 2), (yX2_signsOf, cX2_signsOf, 1, (some (.object "java/lang/String")), 2, 1, 0), (yX2_here, cX2_here, 1, (some .int), 2, 0, 1), (yX2_pass, cX2_pass, 3, (some .int), 2, 1, 1), (yX2_add, cX2_add, 2, none, 2, 1, 1), (yX2_isDigit, cX2_isDigit, 1, (some .boolean), 2, 1, 0), (yX2_readNumber, cX2_readNumber, 3, none, 2, 0, 1), (yX2_fail, cX2_fail, 1, none, 2, 0, 1), (yX2_readQ, cX2_readQ, 4, none, 2, 1, 1), (yX2_readLevel, cX2_readLevel, 6, none, 2, 2, 1), (yX2_readTape, cX2_readTape, 3, (some .int), 2, 2, 1), (yX3_init, cX3_init, 1, none, 3, 0, 2), (yX3_lay, cX3_lay, 3, none, 3, 2, 1), (yX3_lowest, cX3_lowest, 2, (some .int), 3, 1, 1), (yX3_holds, cX3_holds, 3, (some .boolean), 3, 2, 1), (yX4_init, cX4_init, 1, none, 4, 0, 2), (yX4_take, cX4_take, 2, none, 4, 1, 1), (yX4_looksBy, cX4_looksBy, 4, (some .int), 4, 3, 1), (yX4_billBy, cX4_billBy, 4, (some .int), 4, 3, 1), (yX4_face, cX4_face, 3, (some .int), 4, 1, 1), (yX4_grows, cX4_grows, 2, (some .int), 4, 1, 1), (yX4_seeFaces, cX4_seeFaces, 2, none, 4, 0, 1), (yX4_aheadOf, cX4_aheadOf, 5, (some .int), 4, 1, 1), (yX4_served, cX4_served, 3, (some .int), 4, 0, 1), (yX4_pass, cX4_pass, 3, none, 4, 2, 1)]
def mdL_1 : List MD := [(yX4_serveStep, cX4_serveStep, 3, (some .int), 4, 0, 1), (yX4_goOn, cX4_goOn, 3, none, 4, 1, 1), (yX4_stepWithMore, cX4_stepWithMore, 5, (some .int), 4, 2, 1), (yX4_isFedBy, cX4_isFedBy, 6, (some .boolean), 4, 3, 1), (yX4_shamAlike, cX4_shamAlike, 4, none, 4, 2, 1), (yX4_hungerOfAll, cX4_hungerOfAll, 3, (some .int), 4, 0, 1), (yX4_greatestHunger, cX4_greatestHunger, 3, (some .int), 4, 0, 1), (yX4_hadByAll, cX4_hadByAll, 3, (some .int), 4, 0, 1), (yX4_goneOnes, cX4_goneOnes, 3, (some .int), 4, 0, 1), (yX5_init, cX5_init, 1, none, 5, 0, 2), (yX5_begin, cX5_begin, 2, none, 5, 1, 1), (yX6_held, cX6_held, 2, (some .int), 6, 2, 0), (yX6_has, cX6_has, 2, (some .boolean), 6, 2, 0), (yX6_init, cX6_init, 1, none, 6, 0, 2), (yX6_within, cX6_within, 2, (some .boolean), 6, 2, 0), (yX6_error, cX6_error, 2, (some .int), 6, 1, 1), (yX6_fills, cX6_fills, 4, (some .int), 6, 2, 1), (yX6_filling, cX6_filling, 2, (some .int), 6, 1, 1), (yX6_waiters, cX6_waiters, 3, (some .int), 6, 1, 1), (yX6_diner, cX6_diner, 5, (some .int), 6, 3, 1), (yX6_isDiner, cX6_isDiner, 2, (some .boolean), 6, 1, 1), (yX6_ofDiner, cX6_ofDiner, 3, (some .int), 6, 2, 1), (yX6_mostToChangeTo, cX6_mostToChangeTo, 1, (some .int), 6, 1, 0), (yX6_change, cX6_change, 6, (some .int), 6, 3, 1), (yX6_become, cX6_become, 4, (some .int), 6, 2, 1), (yX6_isUnder, cX6_isUnder, 4, (some .boolean), 6, 2, 0), (yX6_as, cX6_as, 3, (some .int), 6, 2, 1), (yX6_feed, cX6_feed, 5, (some .int), 6, 2, 1), (yX6_text, cX6_text, 4, (some .int), 6, 1, 1), (yX6_law, cX6_law, 5, (some .int), 6, 4, 1), (yX6_steps, cX6_steps, 2, (some .int), 6, 1, 1), (yX6_drawSham, cX6_drawSham, 2, none, 6, 0, 1), (yX6_loose, cX6_loose, 3, (some .int), 6, 1, 1), (yX6_next, cX6_next, 1, (some .int), 6, 0, 1), (yX6_think, cX6_think, 1, (some (.object "LooksServed$Table")), 6, 0, 1), (yX6_then, cX6_then, 5, (some .int), 6, 3, 1), (yX6_first, cX6_first, 3, (some .int), 6, 1, 1), (yX6_never, cX6_never, 4, (some .int), 6, 0, 1), (yX6_sham, cX6_sham, 4, (some .int), 6, 2, 1), (yX6_haveMore, cX6_haveMore, 4, (some .boolean), 6, 2, 1)]
def mdL_2 : List MD := [(yX6_alike, cX6_alike, 5, (some .int), 6, 2, 1), (yX6_stepsToldRightly, cX6_stepsToldRightly, 5, (some .int), 6, 2, 1), (yX6_whose, cX6_whose, 6, (some .int), 6, 2, 1), (yX6_rank, cX6_rank, 2, (some .int), 6, 1, 1), (yX6_harm, cX6_harm, 6, (some .int), 6, 2, 1), (yX6_cramps, cX6_cramps, 6, (some .int), 6, 2, 1), (yX6_enough, cX6_enough, 5, (some .int), 6, 2, 1), (yX6_meals, cX6_meals, 3, (some .int), 6, 1, 1), (yX6_commonDivisor, cX6_commonDivisor, 3, (some .int), 6, 2, 0), (yX6_odds, cX6_odds, 6, (some .int), 6, 3, 1), (yX6_seed, cX6_seed, 3, (some .int), 6, 1, 1), (yX6_ownerOfBody, cX6_ownerOfBody, 4, (some .int), 6, 2, 0), (yX6_speak, cX6_speak, 10, (some .int), 6, 5, 0), (yX6_voice, cX6_voice, 4, (some .int), 6, 3, 1), (yX6_trace, cX6_trace, 2, (some .int), 6, 1, 1), (yX6_sheet, cX6_sheet, 4, (some .int), 6, 3, 1), (yX6_put, cX6_put, 5, (some .int), 6, 3, 1), (yX6_move, cX6_move, 8, (some .int), 6, 5, 1), (yX6_shams, cX6_shams, 5, (some .int), 6, 1, 1), (yX6_judge, cX6_judge, 5, (some .int), 6, 1, 1), (yX6_image, cX6_image, 1, (some .int), 6, 0, 1), (yX6_restore, cX6_restore, 1, (some .int), 6, 0, 1), (yX6_tell, cX6_tell, 2, (some .int), 6, 1, 1), (yX6_check, cX6_check, 4, (some .int), 6, 0, 1), (yX6_count, cX6_count, 2, (some .int), 6, 1, 1), (yX6_told, cX6_told, 2, (some .int), 6, 1, 1), (yX7_init, cX7_init, 2, none, 7, 0, 2), (yX7_in, cX7_in, 3, (some .boolean), 7, 3, 0), (yX7_errs, cX7_errs, 2, (some .int), 7, 1, 1), (yX7_held, cX7_held, 3, (some .int), 7, 3, 0), (yX7_moveAll, cX7_moveAll, 4, none, 7, 2, 1), (yX7_its, cX7_its, 3, (some .int), 7, 2, 1), (yX7_gets, cX7_gets, 4, none, 7, 3, 1), (yX7_isDiner, cX7_isDiner, 2, (some .boolean), 7, 1, 1), (yX7_becomes, cX7_becomes, 4, (some .int), 7, 2, 1), (yX7_fills, cX7_fills, 3, (some .int), 7, 2, 1), (yX7_filling, cX7_filling, 2, (some .int), 7, 1, 1), (yX7_waiters, cX7_waiters, 2, (some .int), 7, 1, 1), (yX7_diner, cX7_diner, 5, (some .int), 7, 3, 1), (yX7_byteAt, cX7_byteAt, 2, (some .int), 7, 1, 1)]
def mdL_3 : List MD := [(yX7_isDigit, cX7_isDigit, 1, (some .boolean), 7, 1, 0), (yX7_number, cX7_number, 3, (some .int), 7, 0, 1), (yX7_fails, cX7_fails, 1, (some .int), 7, 0, 1), (yX7_named, cX7_named, 5, (some .int), 7, 1, 1), (yX7_compared, cX7_compared, 5, (some .int), 7, 0, 1), (yX7_factor, cX7_factor, 3, (some .int), 7, 0, 1), (yX7_product, cX7_product, 4, (some .int), 7, 0, 1), (yX7_sum, cX7_sum, 4, (some .int), 7, 0, 1), (yX7_whole, cX7_whole, 3, (some .int), 7, 0, 1), (yX7_both, cX7_both, 3, (some .int), 7, 0, 1), (yX7_walks, cX7_walks, 6, (some .int), 7, 4, 1), (yX7_lawOf, cX7_lawOf, 6, (some .int), 7, 4, 1), (yX7_face, cX7_face, 5, (some .int), 7, 1, 1), (yX7_ofDiner, cX7_ofDiner, 3, (some .int), 7, 2, 1), (yX7_change, cX7_change, 5, (some .int), 7, 3, 1), (yX7_become, cX7_become, 3, (some .int), 7, 2, 1), (yX7_above, cX7_above, 1, (some .int), 7, 1, 0), (yX7_as, cX7_as, 4, (some .int), 7, 2, 1), (yX7_law, cX7_law, 5, (some .int), 7, 4, 1), (yX7_feed, cX7_feed, 5, (some .int), 7, 2, 1), (yX7_text, cX7_text, 5, (some .int), 7, 1, 1), (yX7_grows, cX7_grows, 2, (some .int), 7, 1, 1), (yX7_ahead, cX7_ahead, 6, (some .int), 7, 1, 1), (yX7_served, cX7_served, 3, (some .int), 7, 0, 1), (yX7_sits, cX7_sits, 3, none, 7, 2, 1), (yX7_oneStep, cX7_oneStep, 3, none, 7, 0, 1), (yX7_passes, cX7_passes, 3, none, 7, 1, 1), (yX7_sumOf, cX7_sumOf, 4, (some .int), 7, 1, 1), (yX7_steps, cX7_steps, 2, (some .int), 7, 1, 1), (yX7_drawn, cX7_drawn, 1, (some .int), 7, 0, 1), (yX7_loose, cX7_loose, 4, (some .int), 7, 1, 1), (yX7_next, cX7_next, 1, (some .int), 7, 0, 1), (yX7_then, cX7_then, 5, (some .int), 7, 3, 1), (yX7_first, cX7_first, 4, (some .int), 7, 1, 1), (yX7_moreThan, cX7_moreThan, 4, (some .int), 7, 1, 1), (yX7_fed, cX7_fed, 5, (some .int), 7, 3, 1), (yX7_never, cX7_never, 1, (some .int), 7, 0, 1), (yX7_leastSham, cX7_leastSham, 4, (some .int), 7, 2, 1), (yX7_sham, cX7_sham, 4, (some .int), 7, 2, 1), (yX7_alike, cX7_alike, 4, (some .int), 7, 2, 1)]
def mdL_4 : List MD := [(yX7_isSheet, cX7_isSheet, 1, (some .boolean), 7, 1, 0), (yX7_isSoFor, cX7_isSoFor, 3, (some .int), 7, 1, 1), (yX7_whose, cX7_whose, 6, (some .int), 7, 2, 1), (yX7_rank, cX7_rank, 2, (some .int), 7, 1, 1), (yX7_harm, cX7_harm, 5, (some .int), 7, 2, 1), (yX7_cramps, cX7_cramps, 5, (some .int), 7, 2, 1), (yX7_enough, cX7_enough, 6, (some .int), 7, 2, 1), (yX7_meals, cX7_meals, 4, (some .int), 7, 1, 1), (yX7_divisor, cX7_divisor, 5, (some .int), 7, 2, 0), (yX7_odds, cX7_odds, 6, (some .int), 7, 3, 1), (yX7_seed, cX7_seed, 3, (some .int), 7, 1, 1), (yX7_ran, cX7_ran, 2, none, 7, 1, 1), (yX7_looksIn, cX7_looksIn, 3, (some .int), 7, 2, 1), (yX7_waitsIn, cX7_waitsIn, 3, (some .int), 7, 2, 1), (yX7_eatsIn, cX7_eatsIn, 4, (some .int), 7, 2, 1), (yX7_tellsIn, cX7_tellsIn, 4, (some .int), 7, 2, 1), (yX7_voice, cX7_voice, 4, (some .int), 7, 3, 1), (yX7_trace, cX7_trace, 2, (some .int), 7, 1, 1), (yX7_narrow, cX7_narrow, 2, (some .int), 7, 2, 0), (yX7_sheet, cX7_sheet, 5, (some .int), 7, 3, 1), (yX7_put, cX7_put, 4, (some .int), 7, 3, 1), (yX7_move, cX7_move, 7, (some .int), 7, 5, 1), (yX7_shams, cX7_shams, 3, (some .int), 7, 1, 1), (yX7_judge, cX7_judge, 3, (some .int), 7, 1, 1), (yX7_image, cX7_image, 1, (some .int), 7, 0, 1), (yX7_restore, cX7_restore, 1, (some .int), 7, 0, 1), (yX7_tell, cX7_tell, 2, (some .int), 7, 1, 1), (yX7_check, cX7_check, 4, (some .int), 7, 0, 1), (yX7_count, cX7_count, 2, (some .int), 7, 1, 1), (yX7_told, cX7_told, 2, (some .int), 7, 1, 1), (yL_law, cL_law, 4, (some .boolean), 8, 1, 0)]
def mdL : List MD := mdL_0 ++ mdL_1 ++ mdL_2 ++ mdL_3 ++ mdL_4
def FLz : List ((Nat × Nat × Nat × Nat) × Nat) := [((0, 9, 0, 0), 142), ((0, 15, 0, 1), 144), ((0, 19, 0, 2), 146), ((0, 22, 0, 3), 148), ((0, 25, 0, 4), 150), ((1, 15, 1, 0), 504), ((1, 21, 1, 1), 505), ((2, 9, 2, 0), 170), ((2, 15, 2, 1), 172), ((2, 19, 2, 3), 175), ((2, 24, 2, 4), 176), ((2, 28, 2, 5), 177), ((2, 31, 2, 6), 178), ((2, 34, 2, 2), 174), ((3, 9, 3, 0), 229), ((3, 15, 3, 1), 231), ((3, 18, 3, 2), 233), ((4, 9, 4, 0), 82), ((4, 15, 4, 1), 84), ((4, 18, 4, 2), 86), ((4, 21, 4, 3), 88), ((4, 24, 4, 4), 90), ((4, 27, 4, 5), 92), ((4, 30, 4, 6), 94), ((4, 34, 4, 7), 96), ((4, 37, 4, 8), 97), ((4, 41, 4, 9), 99), ((4, 44, 4, 10), 101), ((4, 47, 4, 11), 103), ((4, 51, 4, 12), 105), ((5, 9, 5, 0), 201), ((5, 15, 5, 1), 203), ((5, 18, 5, 2), 205), ((5, 21, 5, 3), 207), ((5, 25, 5, 4), 209), ((6, 10, 6, 0), 242), ((6, 16, 6, 1), 243), ((6, 19, 6, 2), 244), ((6, 22, 6, 3), 245), ((6, 28, 6, 4), 246), ((6, 32, 6, 5), 247), ((6, 35, 6, 6), 248), ((6, 41, 0, 1), 145), ((6, 48, 6, 7), 249), ((6, 55, 6, 8), 250), ((6, 62, 6, 9), 251), ((6, 66, 6, 10), 252), ((6, 77, 4, 0), 83), ((6, 80, 4, 8), 98), ((6, 83, 4, 10), 102), ((6, 86, 4, 1), 85), ((6, 89, 4, 2), 87), ((6, 92, 4, 3), 89), ((6, 95, 4, 4), 91), ((6, 98, 4, 5), 93), ((6, 101, 4, 6), 95), ((6, 121, 0, 2), 147), ((6, 134, 2, 0), 171), ((6, 137, 2, 1), 173), ((6, 143, 4, 11), 104), ((6, 147, 4, 12), 106), ((6, 157, 4, 9), 100), ((6, 213, 3, 1), 232), ((6, 206, 3, 0), 230), ((6, 235, 0, 0), 143), ((6, 243, 5, 2), 206), ((6, 238, 5, 0), 202), ((6, 241, 5, 1), 204), ((6, 245, 5, 4), 210), ((6, 261, 5, 3), 208), ((6, 267, 3, 2), 234), ((6, 287, 0, 4), 151), ((6, 290, 0, 3), 149), ((7, 7, 7, 0), 775), ((7, 13, 7, 1), 776), ((7, 16, 7, 2), 777), ((7, 19, 7, 3), 778), ((7, 22, 7, 6), 781), ((7, 25, 7, 15), 790), ((7, 28, 7, 16), 791), ((7, 31, 7, 17), 792), ((7, 34, 7, 18), 793), ((7, 37, 7, 19), 794), ((7, 40, 7, 20), 795), ((7, 76, 7, 9), 784), ((7, 80, 7, 7), 782), ((7, 87, 7, 8), 783), ((7, 83, 7, 14), 789), ((7, 100, 7, 11), 786), ((7, 103, 7, 12), 787), ((7, 106, 7, 13), 788), ((7, 115, 7, 10), 785), ((7, 201, 7, 21), 796), ((7, 207, 7, 23), 798), ((7, 213, 7, 24), 799), ((7, 219, 7, 22), 797), ((7, 231, 7, 4), 779), ((7, 234, 7, 5), 780)]
def MLz : List ((Nat × Nat × Nat × Nat) × Nat) := [((60, 335, 1, 20), 390), ((60, 492, 0, 20), 380), ((60, 505, 2, 20), 386), ((60, 637, 7, 0), 394), ((60, 633, 3, 20), 376), ((61, 88, 5, 0), 397), ((61, 95, 6, 0), 404), ((1, 9, 8, 0), 490), ((2, 75, 17, 20), 368), ((2, 79, 4, 20), 372), ((2, 85, 20, 0), 456), ((2, 62, 19, 20), 463), ((2, 89, 21, 20), 459), ((2, 50, 23, 20), 364), ((2, 43, 24, 20), 360), ((2, 58, 18, 20), 468), ((2, 47, 22, 20), 472), ((2, 54, 16, 0), 476), ((3, 22, 9, 0), 714), ((3, 29, 28, 20), 641), ((4, 60, 14, 20), 316), ((4, 70, 32, 20), 312), ((4, 73, 34, 20), 536), ((4, 77, 37, 20), 541), ((4, 103, 35, 20), 554), ((4, 106, 33, 20), 558), ((4, 80, 36, 20), 532), ((4, 83, 38, 20), 537), ((4, 91, 39, 20), 548), ((4, 109, 40, 20), 528), ((6, 45, 15, 10), 165), ((6, 69, 54, 0), 280), ((6, 73, 55, 20), 283), ((6, 105, 60, 20), 304), ((6, 109, 34, 20), 308), ((6, 112, 62, 0), 327), ((6, 115, 65, 0), 338), ((6, 128, 25, 20), 353), ((6, 140, 13, 10), 486), ((6, 150, 32, 20), 515), ((6, 154, 33, 20), 516), ((6, 160, 41, 20), 524), ((6, 164, 45, 20), 559), ((6, 174, 12, 20), 571), ((6, 168, 71, 20), 567), ((6, 171, 40, 20), 576), ((6, 177, 36, 20), 581), ((6, 180, 38, 20), 582), ((6, 222, 31, 20), 591), ((6, 183, 74, 20), 587), ((6, 187, 42, 20), 600), ((6, 191, 43, 20), 612), ((6, 203, 52, 0), 628), ((6, 195, 44, 20), 620), ((6, 199, 79, 20), 624), ((6, 216, 29, 20), 637), ((6, 209, 81, 20), 633), ((6, 219, 37, 20), 650), ((6, 226, 46, 20), 663), ((6, 229, 47, 20), 671), ((6, 232, 88, 0), 679), ((6, 252, 91, 0), 693), ((6, 258, 50, 20), 698), ((6, 248, 92, 0), 690), ((6, 264, 27, 20), 710), ((6, 270, 28, 20), 721), ((6, 284, 11, 20), 740), ((6, 293, 48, 20), 761), ((7, 44, 107, 0), 855), ((7, 48, 114, 20), 858), ((7, 53, 108, 20), 863), ((7, 58, 112, 20), 881), ((7, 90, 119, 20), 933), ((7, 93, 120, 0), 937), ((7, 96, 122, 20), 948), ((7, 127, 127, 20), 921), ((7, 109, 121, 20), 940), ((7, 112, 123, 20), 944), ((7, 118, 125, 20), 929), ((7, 121, 128, 20), 909), ((7, 124, 126, 20), 925), ((7, 133, 129, 20), 913), ((7, 130, 124, 20), 917), ((7, 136, 130, 20), 905), ((7, 140, 109, 0), 952), ((7, 66, 111, 20), 893), ((7, 144, 131, 20), 901), ((7, 62, 113, 20), 889), ((7, 69, 132, 20), 897), ((7, 72, 136, 0), 967), ((7, 149, 110, 20), 984), ((7, 153, 142, 20), 1005), ((7, 163, 141, 20), 1013), ((7, 156, 143, 20), 1001), ((7, 159, 144, 20), 1009), ((7, 166, 145, 20), 997), ((7, 170, 146, 20), 993), ((7, 174, 147, 20), 1017), ((7, 178, 149, 20), 1025), ((7, 182, 154, 20), 1051), ((7, 186, 155, 20), 1047), ((7, 189, 157, 20), 1059), ((7, 192, 160, 0), 1071), ((7, 195, 161, 20), 1074), ((7, 198, 168, 0), 1102), ((7, 204, 171, 20), 1117), ((7, 210, 172, 20), 1113), ((7, 216, 173, 20), 1125), ((7, 222, 174, 20), 1121), ((7, 225, 175, 20), 1129), ((7, 228, 178, 0), 1145), ((8, 9, 53, 10), 70), ((8, 12, 106, 10), 771), ((8, 13, 56, 20), 276), ((8, 17, 115, 20), 851), ((8, 18, 57, 20), 288), ((8, 22, 116, 20), 868), ((8, 23, 58, 20), 292), ((8, 26, 117, 20), 872), ((8, 27, 59, 20), 296), ((8, 31, 118, 20), 876), ((8, 32, 61, 20), 300), ((8, 35, 133, 20), 885), ((8, 36, 63, 20), 323), ((8, 39, 134, 20), 955), ((8, 40, 64, 20), 330), ((8, 43, 135, 20), 959), ((8, 44, 66, 20), 334), ((8, 47, 137, 20), 963), ((8, 50, 67, 20), 343), ((8, 54, 139, 20), 975), ((8, 55, 68, 20), 347), ((8, 58, 140, 20), 980), ((8, 59, 69, 20), 511), ((8, 63, 138, 20), 971), ((8, 64, 70, 20), 520), ((8, 67, 148, 20), 988), ((8, 68, 72, 20), 563), ((8, 71, 150, 20), 1021), ((8, 72, 73, 20), 577), ((8, 76, 151, 20), 1030), ((8, 77, 75, 20), 583), ((8, 80, 152, 20), 1034), ((8, 81, 76, 20), 596), ((8, 84, 153, 20), 1038), ((8, 85, 77, 20), 604), ((8, 88, 156, 20), 1043), ((8, 89, 78, 20), 608), ((8, 92, 158, 20), 1055), ((8, 93, 80, 20), 616), ((8, 96, 159, 20), 1063), ((8, 97, 82, 20), 629), ((8, 100, 162, 20), 1067), ((8, 101, 83, 20), 646), ((8, 104, 163, 20), 1078), ((8, 105, 84, 20), 651), ((8, 108, 164, 20), 1082), ((8, 109, 85, 20), 655), ((8, 112, 165, 20), 1086), ((8, 113, 86, 20), 659), ((8, 116, 166, 20), 1090), ((8, 117, 87, 20), 667), ((8, 120, 167, 20), 1094), ((8, 121, 89, 20), 675), ((8, 124, 169, 20), 1098), ((8, 125, 90, 20), 682), ((8, 128, 170, 20), 1105), ((8, 129, 93, 20), 686), ((8, 132, 176, 20), 1109), ((8, 133, 94, 20), 702), ((8, 136, 177, 20), 1133), ((8, 137, 95, 20), 706), ((8, 140, 179, 20), 1137), ((8, 141, 96, 20), 717), ((8, 144, 180, 20), 1141), ((8, 145, 97, 20), 722), ((8, 149, 181, 20), 1148), ((8, 150, 98, 20), 727), ((8, 153, 182, 20), 1152), ((8, 154, 99, 20), 732), ((8, 157, 183, 20), 1156), ((8, 158, 100, 20), 736), ((8, 161, 184, 20), 1160), ((8, 162, 101, 20), 745), ((8, 165, 185, 20), 1164), ((8, 166, 102, 20), 749), ((8, 169, 186, 20), 1168), ((8, 170, 103, 20), 753), ((8, 173, 187, 20), 1172), ((8, 174, 104, 20), 757), ((8, 177, 188, 20), 1176), ((8, 178, 105, 20), 765), ((8, 181, 189, 20), 1180)]
def MSz : List ((Nat × Nat × Nat) × Nat) := [((61, 92, 2), 400), ((61, 38, 3), 403), ((62, 316, 5), 493), ((62, 304, 3), 500), ((62, 150, 4), 501), ((0, 3, 12), 141), ((0, 28, 4), 744), ((1, 3, 12), 489), ((2, 3, 12), 168), ((2, 37, 3), 357), ((3, 3, 12), 228), ((4, 3, 12), 81), ((4, 54, 4), 595), ((4, 95, 2), 552), ((4, 100, 3), 553), ((5, 3, 12), 200), ((6, 1, 12), 73), ((6, 273, 4), 726), ((6, 279, 3), 731), ((7, 1, 12), 774)]
def NLl : List (Nat × Nat × Nat × Nat) := [(4, 66, 51, 1), (4, 87, 52, 1), (6, 9, 30, 11), (6, 27, 10, 11), (6, 54, 49, 11), (6, 61, 26, 11)]
def CLz : List ((Nat × Nat × Nat) × Nat) := [((62, 317, 90), 499), ((6, 7, 4), 76), ((6, 25, 0), 136), ((6, 39, 2), 163), ((6, 52, 5), 195), ((6, 59, 3), 222), ((6, 132, 1), 484), ((8, 7, 6), 68), ((8, 10, 7), 769)]
def COz : List ((Nat × Nat × Int32) × Nat) := [((0, 34, 1103515245), 575), ((3, 28, 65535), 645), ((6, 296, -1000000000), 287), ((7, 43, -1000000000), 867), ((7, 52, -1000000001), 862), ((7, 57, -1000000004), 880), ((7, 75, -1000000005), 970), ((7, 169, -1000000003), 992), ((7, 177, 1103515245), 1029), ((7, 181, -1000000002), 1042)]
def C2z : List ((Nat × Nat × Nat) × Nat) := [((7, 147, 255), 979), ((8, 48, 4294967295), 1184)]
def SRl : List (Nat × Nat × Nat) := [(2, 22, 3), (6, 124, 3), (6, 126, 4), (2, 92, 5), (2, 65, 6), (2, 67, 7), (2, 69, 8), (2, 71, 9), (2, 73, 10)]
def SFz : List ((Nat × Nat × Nat) × Nat) := [((60, 15, 1), 1185), ((60, 9, 0), 1186)]
def GSz : List ((Nat × Nat × Nat) × Nat) := [((6, 118, 1), 341), ((60, 38, 99), 384), ((6, 255, 2), 696)]
def MPl : List (Nat × Nat × Nat × Nat) := [(383, 381, 382, 60), (393, 391, 392, 60), (389, 387, 388, 60), (379, 377, 378, 60), (375, 373, 374, 60), (399, 398, 0, 61), (406, 405, 0, 61), (396, 395, 0, 61), (492, 491, 0, 66), (716, 715, 0, 66), (140, 139, 0, 54), (743, 741, 742, 54), (574, 572, 573, 54), (488, 487, 0, 65), (319, 317, 318, 65), (167, 166, 0, 55), (478, 477, 0, 55), (371, 370, 4, 55), (471, 470, 7, 55), (466, 465, 6, 55), (458, 457, 0, 55), (462, 461, 5, 55), (475, 474, 8, 55), (367, 366, 3, 55), (363, 362, 2, 55), (356, 354, 355, 55), (227, 226, 0, 57), (713, 711, 712, 57), (644, 642, 643, 57), (640, 638, 639, 57), (80, 79, 0, 53), (594, 592, 593, 53), (315, 313, 314, 53), (519, 517, 518, 53), (311, 309, 310, 53), (557, 556, 10, 53), (535, 533, 534, 53), (544, 542, 543, 53), (540, 538, 539, 53), (551, 550, 9, 53), (531, 529, 530, 53), (527, 525, 526, 53), (603, 601, 602, 53), (615, 613, 614, 53), (623, 621, 622, 53), (562, 560, 561, 53), (666, 664, 665, 53), (674, 672, 673, 53), (764, 762, 763, 53), (199, 198, 0, 56), (701, 699, 700, 56), (322, 321, 0, 52), (547, 546, 0, 52), (72, 71, 0, 52), (282, 281, 0, 52), (286, 285, 0, 52), (279, 277, 278, 52), (291, 289, 290, 52), (295, 293, 294, 52), (299, 297, 298, 52), (307, 306, 1, 52), (303, 301, 302, 52), (329, 328, 0, 52), (326, 324, 325, 52), (333, 331, 332, 52), (340, 339, 0, 52), (337, 335, 336, 52), (346, 344, 345, 52), (350, 348, 349, 52), (514, 512, 513, 52), (523, 521, 522, 52), (570, 569, 11, 52), (566, 564, 565, 52), (580, 578, 579, 52), (590, 589, 12, 52), (586, 584, 585, 52), (599, 597, 598, 52), (607, 605, 606, 52), (611, 609, 610, 52), (627, 626, 13, 52), (619, 617, 618, 52), (636, 635, 14, 52), (632, 630, 631, 52), (649, 647, 648, 52), (654, 652, 653, 52), (658, 656, 657, 52), (662, 660, 661, 52), (670, 668, 669, 52), (681, 680, 0, 52), (678, 676, 677, 52), (685, 683, 684, 52), (695, 694, 0, 52), (692, 691, 0, 52), (689, 687, 688, 52), (705, 703, 704, 52), (709, 707, 708, 52), (720, 718, 719, 52), (725, 723, 724, 52), (730, 728, 729, 52), (735, 733, 734, 52), (739, 737, 738, 52), (748, 746, 747, 52), (752, 750, 751, 52), (756, 754, 755, 52), (760, 758, 759, 52), (768, 766, 767, 52), (773, 772, 0, 58), (857, 856, 0, 58), (866, 865, 16, 58), (954, 953, 0, 58), (987, 986, 33, 58), (896, 895, 19, 58), (884, 883, 17, 58), (892, 891, 18, 58), (861, 860, 15, 58), (854, 852, 853, 58), (871, 869, 870, 58), (875, 873, 874, 58), (879, 877, 878, 58), (936, 935, 29, 58), (939, 938, 0, 58), (943, 942, 30, 58), (951, 950, 32, 58), (947, 946, 31, 58), (920, 919, 25, 58), (932, 931, 28, 58), (928, 927, 27, 58), (924, 923, 26, 58), (912, 911, 23, 58), (916, 915, 24, 58), (908, 907, 22, 58), (904, 903, 21, 58), (900, 899, 20, 58), (888, 886, 887, 58), (958, 956, 957, 58), (962, 960, 961, 58), (969, 968, 0, 58), (966, 964, 965, 58), (974, 972, 973, 58), (978, 976, 977, 58), (983, 981, 982, 58), (1016, 1015, 39, 58), (1008, 1007, 37, 58), (1004, 1003, 36, 58), (1012, 1011, 38, 58), (1000, 999, 35, 58), (996, 995, 34, 58), (1020, 1019, 40, 58), (991, 989, 990, 58), (1028, 1027, 41, 58), (1024, 1022, 1023, 58), (1033, 1031, 1032, 58), (1037, 1035, 1036, 58), (1041, 1039, 1040, 58), (1054, 1053, 43, 58), (1050, 1049, 42, 58), (1046, 1044, 1045, 58), (1062, 1061, 44, 58), (1058, 1056, 1057, 58), (1066, 1064, 1065, 58), (1073, 1072, 0, 58), (1077, 1076, 45, 58), (1070, 1068, 1069, 58), (1081, 1079, 1080, 58), (1085, 1083, 1084, 58), (1089, 1087, 1088, 58), (1093, 1091, 1092, 58), (1097, 1095, 1096, 58), (1104, 1103, 0, 58), (1101, 1099, 1100, 58), (1108, 1106, 1107, 58), (1120, 1119, 47, 58), (1116, 1115, 46, 58), (1128, 1127, 49, 58), (1124, 1123, 48, 58), (1132, 1131, 50, 58), (1112, 1110, 1111, 58), (1136, 1134, 1135, 58), (1147, 1146, 0, 58), (1140, 1138, 1139, 58), (1144, 1142, 1143, 58), (1151, 1149, 1150, 58), (1155, 1153, 1154, 58), (1159, 1157, 1158, 58), (1163, 1161, 1162, 58), (1167, 1165, 1166, 58), (1171, 1169, 1170, 58), (1175, 1173, 1174, 58), (1179, 1177, 1178, 58), (1183, 1181, 1182, 58), (0, 0, 0, 0)]
def INl : List (Nat × Nat × Nat) := [(6, 69, 11), (4, 77, 13), (0, 137, 5), (2, 164, 7), (5, 196, 5), (3, 224, 3), (1, 485, 2), (7, 770, 25)]
def tXs : List (String) := ["hcs", "hfc", ")", "|", "&", "<=>", "+-", "*/%"]
end
section
/-! THE SMALL MACHINE: what a method's instructions do to a picture of the cells. A cell: numbers of an array (kind 0 int, 1 boolean, 3 byte), or an object's fields (its class's number), or (number 50) the references of a Sheet[]. A reference is a place: below 32 what was there before the law (script, statics, texts), from 32 on what was made since, in the order of its making. -/
abbrev AC : Type := (Nat × List Int32) ⊕ (Nat × List Value)
abbrev AH : Type := List AC
abbrev LoS : Type := List (Option Value)
abbrev QT : Type := Option Value → AH → Prop
abbrev CT : Type := Nat → Nat → Nat → List Value → AH → QT → Prop
abbrev KT : Type := Nat → LoS → List Value → AH → Nat → Nat → Prop
noncomputable def smI (y pc : Nat) : Option RI := ((allT.getD y []).getD pc none)
def smM (y : Nat) : MD := mdL.getD y (yL_law, cL_law, 4, some .boolean, 8, 1, 0)
def mNm (y : Nat) : MethodName := (smM y).1
def mCd (y : Nat) : ByteArray := (smM y).2.1
def mMx (y : Nat) : Nat := (smM y).2.2.1
def mRt (y : Nat) : Option FieldType := (smM y).2.2.2.1
def mCn (y : Nat) : Nat := (smM y).2.2.2.2.1
def mNa (y : Nat) : Nat := (smM y).2.2.2.2.2.1
def mFl (y : Nat) : Nat := (smM y).2.2.2.2.2.2
def roBODIES : List Int32 := [10, 11, 12, 13, 20, 0, 0, 0, 0, 30, 0, 0, 0, 0, 40, 0, 0, 0, 0, 50, 0, 60, 0, 0, 0, 0, 70, 71]
def roB : Nat → List Int32 := fun k => match k with
  | 0 => [104, 99, 115]
  | 1 => [104, 102, 99]
  | 2 => [41]
  | 3 => [124]
  | 4 => [38]
  | 5 => [60, 61, 62]
  | 6 => [43, 45]
  | _ => [42, 47, 37]
def roL (xs : List Int32) : List AC := [.inl (0, xs), .inl (0, [-1, 0, 0, 0, 1, 2, 3]), .inl (0, roBODIES),
  .inr (60, [.ref 11, .int 0]), .inr (60, [.ref 12, .int 0]), .inr (60, [.ref 13, .int 0]), .inr (60, [.ref 14, .int 0]), .inr (60, [.ref 15, .int 0]), .inr (60, [.ref 16, .int 0]), .inr (60, [.ref 17, .int 0]), .inr (60, [.ref 18, .int 0]),
  .inl (3, roB 0), .inl (3, roB 1), .inl (3, roB 2), .inl (3, roB 3), .inl (3, roB 4), .inl (3, roB 5), .inl (3, roB 6), .inl (3, roB 7)]
def smC (xs : List Int32) (h : AH) (p : Nat) : Option AC := if p < 32 then (roL xs)[p]? else h[p - 32]?
-- the stack's top
def pI (st : List Value) (f : Int32 → List Value → Prop) : Prop := match st with
  | .int x :: s => f x s
  | _ => False
def pL (st : List Value) (f : Int64 → List Value → Prop) : Prop := match st with
  | .long x :: s => f x s
  | _ => False
def pR (st : List Value) (f : Nat → List Value → Prop) : Prop := match st with
  | .ref x :: s => f x s
  | _ => False
def c1V (v : Value) : Bool := match v with
  | .int _ => true
  | .ref _ => true
  | .null => true
  | _ => false
def pV (st : List Value) (f : Value → List Value → Prop) : Prop := match st with
  | v :: s => if c1V v = true then f v s else False
  | _ => False
theorem pI_e {st : List Value} {f : Int32 → List Value → Prop} (h : pI st f) : ∃ x s, st = .int x :: s ∧ f x s := by
  unfold pI at h
  split at h
  · exact ⟨_, _, rfl, h⟩
  · exact h.elim
theorem pL_e {st : List Value} {f : Int64 → List Value → Prop} (h : pL st f) : ∃ x s, st = .long x :: s ∧ f x s := by
  unfold pL at h
  split at h
  · exact ⟨_, _, rfl, h⟩
  · exact h.elim
theorem pR_e {st : List Value} {f : Nat → List Value → Prop} (h : pR st f) : ∃ x s, st = .ref x :: s ∧ f x s := by
  unfold pR at h
  split at h
  · exact ⟨_, _, rfl, h⟩
  · exact h.elim
theorem pV_e {st : List Value} {f : Value → List Value → Prop} (h : pV st f) : ∃ v s, st = v :: s ∧ c1V v = true ∧ f v s := by
  unfold pV at h
  split at h
  · split at h
    · exact ⟨_, _, rfl, by assumption, h⟩
    · exact h.elim
  · exact h.elim
-- locals
def gI (L : LoS) (i : Nat) (f : Int32 → Prop) : Prop := match L.getD i none with
  | some (.int x) => f x
  | _ => False
def gL (L : LoS) (i : Nat) (f : Int64 → Prop) : Prop := match L.getD i none with
  | some (.long x) => f x
  | _ => False
def gA (L : LoS) (i : Nat) (f : Value → Prop) : Prop := match L.getD i none with
  | some (.ref x) => f (.ref x)
  | some .null => f .null
  | _ => False
theorem gI_e {L : LoS} {i : Nat} {f : Int32 → Prop} (h : gI L i f) : ∃ x, L.getD i none = some (.int x) ∧ f x := by
  unfold gI at h
  split at h
  · exact ⟨_, by assumption, h⟩
  · exact h.elim
theorem gL_e {L : LoS} {i : Nat} {f : Int64 → Prop} (h : gL L i f) : ∃ x, L.getD i none = some (.long x) ∧ f x := by
  unfold gL at h
  split at h
  · exact ⟨_, by assumption, h⟩
  · exact h.elim
theorem gA_e {L : LoS} {i : Nat} {f : Value → Prop} (h : gA L i f) : (∃ x, L.getD i none = some (.ref x) ∧ f (.ref x)) ∨ (L.getD i none = some .null ∧ f .null) := by
  unfold gA at h
  split at h
  · exact Or.inl ⟨_, by assumption, h⟩
  · exact Or.inr ⟨by assumption, h⟩
  · exact h.elim
def isW (v : Option Value) : Bool := match v with
  | some (.long _) => true
  | some (.double _) => true
  | _ => false
def okS (L : LoS) (i : Nat) : Bool := decide (i < L.length) && (match i with
  | 0 => true
  | j + 1 => !(isW (L.getD j none)))
def sL (L : LoS) (i : Nat) (v : Value) (f : LoS → Prop) : Prop := if okS L i = true then f (L.set i (some v)) else False
theorem sL_e {L : LoS} {i : Nat} {v : Value} {f : LoS → Prop} (h : sL L i v f) : okS L i = true ∧ f (L.set i (some v)) := by
  unfold sL at h
  split at h
  · exact ⟨by assumption, h⟩
  · exact h.elim
-- cells
def cO (xs : List Int32) (h : AH) (p c : Nat) (f : List Value → Prop) : Prop := match smC xs h p with
  | some (.inr (d, fs)) => if d = c then f fs else False
  | _ => False
def cA (xs : List Int32) (h : AH) (p : Nat) (f : Nat → List Int32 → Prop) : Prop := match smC xs h p with
  | some (.inl (k, l)) => f k l
  | _ => False
theorem cO_e {xs : List Int32} {h : AH} {p c : Nat} {f : List Value → Prop} (q : cO xs h p c f) : ∃ fs, smC xs h p = some (.inr (c, fs)) ∧ f fs := by
  unfold cO at q
  split at q
  · split at q
    · rename_i e1 e2
      subst e2
      exact ⟨_, e1, q⟩
    · exact q.elim
  · exact q.elim
theorem cA_e {xs : List Int32} {h : AH} {p : Nat} {f : Nat → List Int32 → Prop} (q : cA xs h p f) : ∃ k l, smC xs h p = some (.inl (k, l)) ∧ f k l := by
  unfold cA at q
  split at q
  · exact ⟨_, _, by assumption, q⟩
  · exact q.elim
def fO (fs : List Value) (k : Nat) (f : Value → Prop) : Prop := match fs[k]? with
  | some v => f v
  | none => False
theorem fO_e {fs : List Value} {k : Nat} {f : Value → Prop} (q : fO fs k f) : ∃ v, fs[k]? = some v ∧ f v := by
  unfold fO at q
  split at q
  · exact ⟨_, by assumption, q⟩
  · exact q.elim
def fitV (ty : FieldType) (v : Value) : Prop := match ty, v with
  | .int, .int _ => True
  | .boolean, .int x => x = 0 ∨ x = 1
  | .object _, .ref _ => True
  | .object _, .null => True
  | .array _, .ref _ => True
  | .array _, .null => True
  | _, _ => False
def catS (st : List Value) : Nat := (st.map fun v => v.category).sum
/-- a call: its cells and slots are named ahead -/
def cal (call : CT) (K : List Value → AH → Nat → Nat → Prop) (a : Nat) (args rest : List Value) (h : AH) (mc ms : Nat) : Prop :=
  catS rest ≤ 8 ∧ ∃ mc' ms' : Nat, mc' ≤ mc ∧ ms' ≤ ms ∧ call a mc' ms' args h (fun r h' => K (r.toList ++ rest) h' (mc - mc') (ms - ms'))
def cpL (f g : List Int32) (sp dp n : Nat) : List Int32 := (List.range g.length).map (fun k => va_cpy (fun i => f.getD i 0) (fun i => g.getD i 0) sp dp n k)
def tgO (pc : Nat) (o : Int) : Nat := ((pc : Int) + o).toNat
def dfV (ci b : Nat) : List Value := (List.range b).map (fun k => defaultValue (tyT ci k))
def inR (i : Int32) (n : Nat) : Prop := vp_in i n
/-- one instruction -/
def stp (xs : List Int32) (call : CT) (y : Nat) (Q : QT) (K : KT) (r : RI) (pc : Nat) (L : LoS) (st : List Value) (h : AH) (mc ms : Nat) : Prop :=
  match r with
  | (i, nx, kd, a, b, v) =>
  match i with
  | .iconst _ => K nx L (.int v :: st) h mc ms
  | .bipush _ => K nx L (.int v :: st) h mc ms
  | .sipush _ => K nx L (.int v :: st) h mc ms
  | .ldc _ => K nx L ((if a = 0 then .int v else .ref a) :: st) h mc ms
  | .ldc_w _ => K nx L (.int v :: st) h mc ms
  | .ldc2_w _ => K nx L (.long (Int64.ofNat a) :: st) h mc ms
  | .aconst_null => K nx L (.null :: st) h mc ms
  | .iload n => gI L n (fun x => K nx L (.int x :: st) h mc ms)
  | .iload_n n => gI L n.val (fun x => K nx L (.int x :: st) h mc ms)
  | .lload_n n => gL L n.val (fun x => K nx L (.long x :: st) h mc ms)
  | .aload n => gA L n (fun x => K nx L (x :: st) h mc ms)
  | .aload_n n => gA L n.val (fun x => K nx L (x :: st) h mc ms)
  | .istore n => pI st (fun x s => sL L n (.int x) (fun L => K nx L s h mc ms))
  | .istore_n n => pI st (fun x s => sL L n.val (.int x) (fun L => K nx L s h mc ms))
  | .astore n => pR st (fun x s => sL L n (.ref x) (fun L => K nx L s h mc ms))
  | .astore_n n => pR st (fun x s => sL L n.val (.ref x) (fun L => K nx L s h mc ms))
  | .iinc n _ => gI L n (fun x => sL L n (.int (x + v)) (fun L => K nx L st h mc ms))
  | .iadd => pI st (fun y s => pI s (fun x s => K nx L (.int (x + y) :: s) h mc ms))
  | .isub => pI st (fun y s => pI s (fun x s => K nx L (.int (x - y) :: s) h mc ms))
  | .imul => pI st (fun y s => pI s (fun x s => K nx L (.int (x * y) :: s) h mc ms))
  | .iand => pI st (fun y s => pI s (fun x s => K nx L (.int (x &&& y) :: s) h mc ms))
  | .ior => pI st (fun y s => pI s (fun x s => K nx L (.int (x ||| y) :: s) h mc ms))
  | .ixor => pI st (fun y s => pI s (fun x s => K nx L (.int (x ^^^ y) :: s) h mc ms))
  | .idiv => pI st (fun y s => pI s (fun x s => ¬ y = 0 ∧ K nx L (.int (x / y) :: s) h mc ms))
  | .irem => pI st (fun y s => pI s (fun x s => ¬ y = 0 ∧ K nx L (.int (x - x / y * y) :: s) h mc ms))
  | .ishl => pI st (fun y s => pI s (fun x s => K nx L (.int (x <<< (y &&& 31)) :: s) h mc ms))
  | .ishr => pI st (fun y s => pI s (fun x s => K nx L (.int (x >>> (y &&& 31)) :: s) h mc ms))
  | .iushr => pI st (fun y s => pI s (fun x s => K nx L (.int (x.toUInt32 >>> (y.toUInt32 &&& Int32.toUInt32 31)).toInt32 :: s) h mc ms))
  | .ineg => pI st (fun x s => K nx L (.int (-x) :: s) h mc ms)
  | .i2l => pI st (fun x s => K nx L (.long x.toInt64 :: s) h mc ms)
  | .l2i => pL st (fun x s => K nx L (.int x.toInt32 :: s) h mc ms)
  | .i2b => pI st (fun x s => K nx L (.int x.toInt8.toInt32 :: s) h mc ms)
  | .i2s => pI st (fun x s => K nx L (.int x.toInt16.toInt32 :: s) h mc ms)
  | .i2c => pI st (fun x s => K nx L (.int (x.toUInt32 % 65536).toInt32 :: s) h mc ms)
  | .land => pL st (fun y s => pL s (fun x s => K nx L (.long (x &&& y) :: s) h mc ms))
  | .lor => pL st (fun y s => pL s (fun x s => K nx L (.long (x ||| y) :: s) h mc ms))
  | .lshl => pI st (fun y s => pL s (fun x s => K nx L (.long (x <<< (y.toInt64 &&& 63)) :: s) h mc ms))
  | .lshr => pI st (fun y s => pL s (fun x s => K nx L (.long (x >>> (y.toInt64 &&& 63)) :: s) h mc ms))
  | .lushr => pI st (fun y s => pL s (fun x s => K nx L (.long (x.toUInt64 >>> (y.toInt64.toUInt64 &&& Int64.toUInt64 63)).toInt64 :: s) h mc ms))
  | .dup => pV st (fun u s => K nx L (u :: u :: s) h mc ms)
  | .pop => pV st (fun u s => K nx L s h mc ms)
  | .dup2 => pV st (fun u s => pV s (fun w s => K nx L (u :: w :: u :: w :: s) h mc ms))
  | .goto _ => K a L st h mc ms
  | .ifCond .eq _ => pI st (fun x s => if x = 0 then K a L s h mc ms else K nx L s h mc ms)
  | .ifCond .ne _ => pI st (fun x s => if x = 0 then K nx L s h mc ms else K a L s h mc ms)
  | .ifCond .lt _ => pI st (fun x s => if x < 0 then K a L s h mc ms else K nx L s h mc ms)
  | .ifCond .ge _ => pI st (fun x s => if 0 ≤ x then K a L s h mc ms else K nx L s h mc ms)
  | .ifCond .gt _ => pI st (fun x s => if 0 < x then K a L s h mc ms else K nx L s h mc ms)
  | .ifCond .le _ => pI st (fun x s => if x ≤ 0 then K a L s h mc ms else K nx L s h mc ms)
  | .if_icmp .eq _ => pI st (fun y s => pI s (fun x s => if x = y then K a L s h mc ms else K nx L s h mc ms))
  | .if_icmp .ne _ => pI st (fun y s => pI s (fun x s => if x = y then K nx L s h mc ms else K a L s h mc ms))
  | .if_icmp .lt _ => pI st (fun y s => pI s (fun x s => if x < y then K a L s h mc ms else K nx L s h mc ms))
  | .if_icmp .ge _ => pI st (fun y s => pI s (fun x s => if y ≤ x then K a L s h mc ms else K nx L s h mc ms))
  | .if_icmp .gt _ => pI st (fun y s => pI s (fun x s => if y < x then K a L s h mc ms else K nx L s h mc ms))
  | .if_icmp .le _ => pI st (fun y s => pI s (fun x s => if x ≤ y then K a L s h mc ms else K nx L s h mc ms))
  | .ifnull _ => (match st with
    | .null :: s => K a L s h mc ms
    | .ref _ :: s => K nx L s h mc ms
    | _ => False)
  | .ifnonnull _ => (match st with
    | .null :: s => K nx L s h mc ms
    | .ref _ :: s => K a L s h mc ms
    | _ => False)
  | .tableswitch d lo hi offs => pI st (fun x s => if x.toInt < lo ∨ hi < x.toInt then K (tgO pc d) L s h mc ms else (match offs[(x.toInt - lo).toNat]? with
    | some o => K (tgO pc o) L s h mc ms
    | none => False))
  | .lookupswitch d ps => pI st (fun x s => K (tgO pc (Op.lookupswitch.offset ps.toList d x.toInt)) L s h mc ms)
  | .getfield _ => pR st (fun p s => cO xs h p a (fun fs => fO fs b (fun u => K nx L (u :: s) h mc ms)))
  | .putfield _ => pV st (fun u s => pR s (fun p s => 32 ≤ p ∧ cO xs h p a (fun fs => b < fs.length ∧ fitV (tyT a b) u ∧ K nx L s (h.set (p - 32) (.inr (a, fs.set b u))) mc ms)))
  | .getstatic _ => K nx L ((if a = 99 then .int 1 else .ref a) :: st) h mc ms
  | .iaload => pI st (fun i s => pR s (fun p s => cA xs h p (fun k l => k = 0 ∧ vp_in i l.length ∧ K nx L (.int (l.getD i.toNatClampNeg 0) :: s) h mc ms)))
  | .baload => pI st (fun i s => pR s (fun p s => cA xs h p (fun k l => ((32 ≤ p ∧ k = 1) ∨ (p < 32 ∧ k = 3)) ∧ vp_in i l.length ∧ K nx L (.int (l.getD i.toNatClampNeg 0) :: s) h mc ms)))
  | .aaload => pI st (fun i s => pR s (fun p s => 32 ≤ p ∧ cO xs h p 50 (fun fs => vp_in i fs.length ∧ fO fs i.toNatClampNeg (fun u => c1V u = true ∧ (∀ z, u ≠ .int z) ∧ K nx L (u :: s) h mc ms))))
  | .iastore => pI st (fun x s => pI s (fun i s => pR s (fun p s => 32 ≤ p ∧ cA xs h p (fun k l => k = 0 ∧ vp_in i l.length ∧ K nx L s (h.set (p - 32) (.inl (0, l.set i.toNatClampNeg x))) mc ms))))
  | .bastore => pI st (fun x s => pI s (fun i s => pR s (fun p s => 32 ≤ p ∧ (x = 0 ∨ x = 1) ∧ cA xs h p (fun k l => k = 1 ∧ vp_in i l.length ∧ K nx L s (h.set (p - 32) (.inl (1, l.set i.toNatClampNeg x))) mc ms))))
  | .aastore => pR st (fun q s => pI s (fun i s => pR s (fun p s => 32 ≤ p ∧ 32 ≤ q ∧ cO xs h q 3 (fun _ => cO xs h p 50 (fun fs => vp_in i fs.length ∧ K nx L s (h.set (p - 32) (.inr (50, fs.set i.toNatClampNeg (.ref q)))) mc ms)))))
  | .arraylength => pR st (fun p s => cA xs h p (fun k l => (k = 0 ∨ k = 1 ∨ (p < 32 ∧ k = 3)) ∧ K nx L (.int (Int32.ofNat l.length) :: s) h mc ms))
  | .newarray _ => pI st (fun n s => ¬ n < 0 ∧ n.toNatClampNeg ≤ 100000 ∧ 1 ≤ mc ∧ n.toNatClampNeg ≤ ms ∧ K nx L (.ref (32 + h.length) :: s) (h ++ [.inl (a, List.replicate n.toNatClampNeg 0)]) (mc - 1) (ms - n.toNatClampNeg))
  | .anewarray _ => pI st (fun n s => ¬ n < 0 ∧ n.toNatClampNeg ≤ 100000 ∧ 1 ≤ mc ∧ n.toNatClampNeg ≤ ms ∧ K nx L (.ref (32 + h.length) :: s) (h ++ [.inr (50, List.replicate n.toNatClampNeg .null)]) (mc - 1) (ms - n.toNatClampNeg))
  | .new _ => 1 ≤ mc ∧ b ≤ ms ∧ K nx L (.ref (32 + h.length) :: st) (h ++ [.inr (a, dfV a b)]) (mc - 1) (ms - b)
  | .checkcast _ => pR st (fun p s => 32 ≤ p ∧ cA xs h p (fun k _ => k = 0 ∧ K nx L (.ref p :: s) h mc ms))
  | .invokestatic _ => (match kd with
    | 2 => pI st (fun y s => pI s (fun x s => catS s ≤ 8 ∧ K nx L (.int (if x < y then y else x) :: s) h mc ms))
    | 3 => pI st (fun y s => pI s (fun x s => catS s ≤ 8 ∧ K nx L (.int (if y < x then y else x) :: s) h mc ms))
    | 4 => pI st (fun n s => pI s (fun dp s => pR s (fun q s => pI s (fun sp s => pR s (fun p s => 32 ≤ p ∧ 32 ≤ q ∧ catS s ≤ 8 ∧ cA xs h p (fun k f => cA xs h q (fun k2 g => k2 = k ∧ (k = 0 ∨ k = 1) ∧ ¬ sp < 0 ∧ ¬ dp < 0 ∧ ¬ n < 0 ∧ sp.toNatClampNeg + n.toNatClampNeg ≤ f.length ∧ dp.toNatClampNeg + n.toNatClampNeg ≤ g.length ∧ (k = 1 → ∀ x ∈ f, x = 0 ∨ x = 1) ∧
        K nx L s (h.set (q - 32) (.inl (k, cpL f g sp.toNatClampNeg dp.toNatClampNeg n.toNatClampNeg))) mc ms)))))))
    | _ => b ≤ st.length ∧ cal call (fun s h mc ms => K nx L s h mc ms) a (st.take b).reverse (st.drop b) h mc ms)
  | .invokevirtual _ => (match kd with
    | 5 => pR st (fun p s => 32 ≤ p ∧ catS s ≤ 8 ∧ cA xs h p (fun k l => k = 0 ∧ 1 ≤ mc ∧ l.length ≤ ms ∧ K nx L (.ref (32 + h.length) :: s) (h ++ [.inl (0, l)]) (mc - 1) (ms - l.length)))
    | _ => b ≤ st.length ∧ pR (st.drop b) (fun p s => cO xs h p (mCn a) (fun _ => cal call (fun s h mc ms => K nx L s h mc ms) a (.ref p :: (st.take b).reverse) s h mc ms)))
  | .invokespecial _ => (match kd with
    | 12 => pR st (fun p s => catS s ≤ 8 ∧ K nx L s h mc ms)
    | _ => b ≤ st.length ∧ pR (st.drop b) (fun p s => 32 ≤ p ∧ cal call (fun s h mc ms => K nx L s h mc ms) a (.ref p :: (st.take b).reverse) s h mc ms))
  | .ireturn => pI st (fun x s => s = [] ∧ (match mRt y with
    | some .int => Q (some (.int x)) h
    | some .boolean => (x = 0 ∨ x = 1) ∧ Q (some (.int x)) h
    | some .byte => (-128 ≤ x ∧ x ≤ 127) ∧ Q (some (.int x)) h
    | _ => False))
  | .areturn => pV st (fun u s => s = [] ∧ (∀ z, u ≠ .int z) ∧ Q (some u) h)
  | .return_ => st = [] ∧ Q none h
  | _ => False
/-- a method's run from an instruction on: the least that its instructions give -/
def gw (xs : List Int32) (call : CT) (y : Nat) (Q : QT) : KT := fun pc L st h mc ms =>
  ∀ P : KT, (∀ pc L st h mc ms r, smI y pc = some r → stp xs call y Q P r pc L st h mc ms → P pc L st h mc ms) → P pc L st h mc ms
def slV (vs : List Value) : LoS := vs.flatMap fun v => if v.category = 2 then [some v, none] else [some v]
def entL (n : Nat) (vs : List Value) : LoS := slV vs ++ List.replicate (n - (slV vs).length) none
/-- a method's run at a depth -/
def WP (xs : List Int32) : Nat → CT
  | 0 => fun _ _ _ _ _ _ => False
  | d + 1 => fun y mc ms args h Q => (slV args).length ≤ mMx y ∧ gw xs (WP xs d) y Q 0 (entL (mMx y) args) [] h mc ms
-- what a weaker end asks
theorem pI_m {st : List Value} {f g : Int32 → List Value → Prop} (h : ∀ x s, f x s → g x s) : pI st f → pI st g := by
  unfold pI
  split
  · exact h _ _
  · exact id
theorem pL_m {st : List Value} {f g : Int64 → List Value → Prop} (h : ∀ x s, f x s → g x s) : pL st f → pL st g := by
  unfold pL
  split
  · exact h _ _
  · exact id
theorem pR_m {st : List Value} {f g : Nat → List Value → Prop} (h : ∀ x s, f x s → g x s) : pR st f → pR st g := by
  unfold pR
  split
  · exact h _ _
  · exact id
theorem pV_m {st : List Value} {f g : Value → List Value → Prop} (h : ∀ x s, f x s → g x s) : pV st f → pV st g := by
  unfold pV
  split
  · split
    · exact h _ _
    · exact id
  · exact id
theorem gI_m {L : LoS} {i : Nat} {f g : Int32 → Prop} (h : ∀ x, f x → g x) : gI L i f → gI L i g := by
  unfold gI
  split
  · exact h _
  · exact id
theorem gL_m {L : LoS} {i : Nat} {f g : Int64 → Prop} (h : ∀ x, f x → g x) : gL L i f → gL L i g := by
  unfold gL
  split
  · exact h _
  · exact id
theorem gA_m {L : LoS} {i : Nat} {f g : Value → Prop} (h : ∀ x, f x → g x) : gA L i f → gA L i g := by
  unfold gA
  split
  · exact h _
  · exact h _
  · exact id
theorem sL_m {L : LoS} {i : Nat} {v : Value} {f g : LoS → Prop} (h : ∀ x, f x → g x) : sL L i v f → sL L i v g := by
  unfold sL
  split
  · exact h _
  · exact id
theorem cO_m {xs : List Int32} {h : AH} {p c : Nat} {f g : List Value → Prop} (q : ∀ x, f x → g x) : cO xs h p c f → cO xs h p c g := by
  unfold cO
  split
  · split
    · exact q _
    · exact id
  · exact id
theorem cA_m {xs : List Int32} {h : AH} {p : Nat} {f g : Nat → List Int32 → Prop} (q : ∀ k x, f k x → g k x) : cA xs h p f → cA xs h p g := by
  unfold cA
  split
  · exact q _ _
  · exact id
theorem fO_m {fs : List Value} {k : Nat} {f g : Value → Prop} (q : ∀ x, f x → g x) : fO fs k f → fO fs k g := by
  unfold fO
  split
  · exact q _
  · exact id
theorem an_m {A B B' : Prop} (h : B → B') : A ∧ B → A ∧ B' := fun q => ⟨q.1, h q.2⟩
theorem if_m {c : Prop} {_ : Decidable c} {A B A' B' : Prop} (h1 : A → A') (h2 : B → B') : (if c then A else B) → (if c then A' else B') := by
  split
  · exact h1
  · exact h2
theorem cal_m {call : CT} {K K' : List Value → AH → Nat → Nat → Prop} (hc : ∀ a mc ms args h Q Q', (∀ r h', Q r h' → Q' r h') → call a mc ms args h Q → call a mc ms args h Q') (hK : ∀ s h mc ms, K s h mc ms → K' s h mc ms) {a : Nat} {args rest : List Value} {h : AH} {mc ms : Nat} : cal call K a args rest h mc ms → cal call K' a args rest h mc ms := by
  rintro ⟨h1, mc', ms', h2, h3, h4⟩
  exact ⟨h1, mc', ms', h2, h3, hc _ _ _ _ _ _ _ (fun r h' q => hK _ _ _ _ q) h4⟩
set_option maxHeartbeats 2000000 in
theorem stp_m {xs : List Int32} {call : CT} {y : Nat} {Q Q' : QT} {K K' : KT} (hc : ∀ a mc ms args h Q Q', (∀ r h', Q r h' → Q' r h') → call a mc ms args h Q → call a mc ms args h Q') (hQ : ∀ r h, Q r h → Q' r h) (hK : ∀ pc L st h mc ms, K pc L st h mc ms → K' pc L st h mc ms) {r : RI} {pc : Nat} {L : LoS} {st : List Value} {h : AH} {mc ms : Nat} : stp xs call y Q K r pc L st h mc ms → stp xs call y Q' K' r pc L st h mc ms := by
  obtain ⟨i, nx, kd, a, b, v⟩ := r
  unfold stp
  dsimp only
  split
  all_goals repeat' (first | exact id | exact hK _ _ _ _ _ _ | exact hQ _ _ | refine pI_m (fun _ _ => ?_) | refine pL_m (fun _ _ => ?_) | refine pR_m (fun _ _ => ?_) | refine pV_m (fun _ _ => ?_) | refine gI_m (fun _ => ?_) | refine gL_m (fun _ => ?_) | refine gA_m (fun _ => ?_) | refine sL_m (fun _ => ?_) | refine cO_m (fun _ => ?_) | refine cA_m (fun _ _ => ?_) | refine fO_m (fun _ => ?_) | refine cal_m hc (fun _ _ _ _ => ?_) | refine if_m ?_ ?_ | refine an_m ?_ | split)
theorem gw_step {xs : List Int32} {call : CT} {y : Nat} {Q : QT} (hc : ∀ a mc ms args h Q Q', (∀ r h', Q r h' → Q' r h') → call a mc ms args h Q → call a mc ms args h Q') {pc : Nat} {L : LoS} {st : List Value} {h : AH} {mc ms : Nat} {r : RI} (hr : smI y pc = some r) (hs : stp xs call y Q (gw xs call y Q) r pc L st h mc ms) : gw xs call y Q pc L st h mc ms := by
  intro P hP
  exact hP _ _ _ _ _ _ _ hr (stp_m hc (fun _ _ q => q) (fun pc L st h mc ms q => q P hP) hs)
theorem gw_m {xs : List Int32} {call : CT} {y : Nat} {Q Q' : QT} (hc : ∀ a mc ms args h Q Q', (∀ r h', Q r h' → Q' r h') → call a mc ms args h Q → call a mc ms args h Q') (hQ : ∀ r h, Q r h → Q' r h) {pc : Nat} {L : LoS} {st : List Value} {h : AH} {mc ms : Nat} (g : gw xs call y Q pc L st h mc ms) : gw xs call y Q' pc L st h mc ms := by
  refine g _ (fun pc L st h mc ms r hr hs => ?_)
  exact gw_step hc hr (stp_m hc hQ (fun _ _ _ _ _ _ q => q) hs)
theorem WP_m (xs : List Int32) : ∀ d a mc ms args h Q Q', (∀ r h', Q r h' → Q' r h') → WP xs d a mc ms args h Q → WP xs d a mc ms args h Q' := by
  intro d
  induction d with
  | zero => intro a mc ms args h Q Q' _ q; exact q.elim
  | succ d ih =>
    intro a mc ms args h Q Q' hQ q
    exact ⟨q.1, gw_m ih hQ q.2⟩
/-- the step at a depth -/
theorem gs {xs : List Int32} {d y : Nat} {Q : QT} {pc : Nat} {L : LoS} {st : List Value} {h : AH} {mc ms : Nat} {r : RI} (hr : smI y pc = some r) (hs : stp xs (WP xs d) y Q (gw xs (WP xs d) y Q) r pc L st h mc ms) : gw xs (WP xs d) y Q pc L st h mc ms := gw_step (WP_m xs d) hr hs
end
section
/-! THE TABLES' WORDS: each of the small machine's lists stands in the claim's tables -/
noncomputable def tblG : List Cond := lw_tbl.filter goodWord
theorem tblG_of {w : Cond} {i : Nat} (h : lw_tbl[i]? = some w) (hg : goodWord w = true) : w ∈ tblG := List.mem_filter.mpr ⟨List.mem_of_getElem? h, hg⟩
def inT (i : Nat) (w : Cond) : Bool := decide (lw_tbl[i]? = some w) && goodWord w
theorem inT_e {i : Nat} {w : Cond} (h : inT i w = true) : w ∈ tblG := by
  unfold inT at h
  rw [Bool.and_eq_true] at h
  exact tblG_of (of_decide_eq_true h.1) h.2
def FLl : List (Nat × Nat × Nat × Nat) := FLz.map Prod.fst
def wFL (q : Nat × Nat × Nat × Nat) : Cond := .fieldLink (clsN q.1) q.2.1 (TT q.2.2.1 q.2.2.2).1 (TT q.2.2.1 q.2.2.2).2.1 (TT q.2.2.1 q.2.2.2).2.2.1
theorem FL_c : FLz.all (fun z => inT z.2 (wFL z.1) && decide (z.1.2.2.2 < nfT z.1.2.2.1) && decide (z.1.2.2.1 < 8)) = true := by decide +kernel
theorem FL_w : ∀ q ∈ FLl, wFL q ∈ tblG ∧ q.2.2.2 < nfT q.2.2.1 ∧ q.2.2.1 < 8 := by
  intro q hq
  obtain ⟨z, hz, rfl⟩ := List.mem_map.mp hq
  have h := List.all_eq_true.mp FL_c z hz
  simp only [Bool.and_eq_true, decide_eq_true_eq] at h
  exact ⟨inT_e h.1.1, h.1.2, h.2⟩
def MLl : List (Nat × Nat × Nat × Nat) := MLz.map Prod.fst
theorem ML_c : MLz.all (fun z => inT z.2 (.methodLink (clsN z.1.1) z.1.2.1 (mNm z.1.2.2.1))) = true := by decide +kernel
theorem ML_w : ∀ q ∈ MLl, Cond.methodLink (clsN q.1) q.2.1 (mNm q.2.2.1) ∈ tblG := by
  intro q hq
  obtain ⟨z, hz, rfl⟩ := List.mem_map.mp hq
  exact inT_e (List.all_eq_true.mp ML_c z hz)
def MSl : List (Nat × Nat × Nat) := MSz.map Prod.fst
def spN : Nat → MethodName := fun k => match k with
  | 2 => Lib.Math.max.name
  | 3 => Lib.Math.min.name
  | 4 => arraycopyName
  | 5 => ⟨"[I", "clone", "()Ljava/lang/Object;"⟩
  | _ => objectInit
theorem MS_c : MSz.all (fun z => inT z.2 (.methodLink (clsN z.1.1) z.1.2.1 (spN z.1.2.2))) = true := by decide +kernel
theorem MS_w : ∀ q ∈ MSl, Cond.methodLink (clsN q.1) q.2.1 (spN q.2.2) ∈ tblG := by
  intro q hq
  obtain ⟨z, hz, rfl⟩ := List.mem_map.mp hq
  exact inT_e (List.all_eq_true.mp MS_c z hz)
def CLl : List (Nat × Nat × Nat) := CLz.map Prod.fst
def tgN : Nat → String := fun k => if k = 90 then "[I" else clsN k
theorem CL_c : CLz.all (fun z => inT z.2 (.classLink (clsN z.1.1) z.1.2.1 (tgN z.1.2.2))) = true := by decide +kernel
theorem CL_w : ∀ q ∈ CLl, Cond.classLink (clsN q.1) q.2.1 (tgN q.2.2) ∈ tblG := by
  intro q hq
  obtain ⟨z, hz, rfl⟩ := List.mem_map.mp hq
  exact inT_e (List.all_eq_true.mp CL_c z hz)
def COl : List (Nat × Nat × Int32) := COz.map Prod.fst
theorem CO_c : COz.all (fun z => inT z.2 (.constant (clsN z.1.1) z.1.2.1 z.1.2.2)) = true := by decide +kernel
theorem CO_w : ∀ q ∈ COl, Cond.constant (clsN q.1) q.2.1 q.2.2 ∈ tblG := by
  intro q hq
  obtain ⟨z, hz, rfl⟩ := List.mem_map.mp hq
  exact inT_e (List.all_eq_true.mp CO_c z hz)
def C2l : List (Nat × Nat × Nat) := C2z.map Prod.fst
theorem C2_c : C2z.all (fun z => inT z.2 (.constantLong (clsN z.1.1) z.1.2.1 (Int64.ofNat z.1.2.2))) = true := by decide +kernel
theorem C2_w : ∀ q ∈ C2l, Cond.constantLong (clsN q.1) q.2.1 (Int64.ofNat q.2.2) ∈ tblG := by
  intro q hq
  obtain ⟨z, hz, rfl⟩ := List.mem_map.mp hq
  exact inT_e (List.all_eq_true.mp C2_c z hz)
def SFl : List (Nat × Nat × Nat) := SFz.map Prod.fst
def sfN (k : Nat) : String := if k = 0 then "value" else "coder"
def sfD (k : Nat) : String := if k = 0 then "[B" else "B"
theorem SF_c : SFz.all (fun z => inT z.2 (.fieldLink (clsN z.1.1) z.1.2.1 "java/lang/String" (sfN z.1.2.2) (sfD z.1.2.2)) && decide (z.1.2.2 < 2)) = true := by decide +kernel
theorem SF_w : ∀ q ∈ SFl, Cond.fieldLink (clsN q.1) q.2.1 "java/lang/String" (sfN q.2.2) (sfD q.2.2) ∈ tblG ∧ q.2.2 < 2 := by
  intro q hq
  obtain ⟨z, hz, rfl⟩ := List.mem_map.mp hq
  have h := List.all_eq_true.mp SF_c z hz
  simp only [Bool.and_eq_true, decide_eq_true_eq] at h
  exact ⟨inT_e h.1, h.2⟩
def GSl : List (Nat × Nat × Nat) := GSz.map Prod.fst
def gsC (k : Nat) : String := if k = 99 then "java/lang/String" else "LooksServed"
def gsN (k : Nat) : String := if k = 99 then "COMPACT_STRINGS" else if k = 1 then "ABOVE" else "BODIES"
def gsD (k : Nat) : String := if k = 99 then "Z" else "[I"
theorem GS_c : GSz.all (fun z => inT z.2 (.fieldLink (clsN z.1.1) z.1.2.1 (gsC z.1.2.2) (gsN z.1.2.2) (gsD z.1.2.2)) && decide (z.1.2.2 = 1 ∨ z.1.2.2 = 2 ∨ z.1.2.2 = 99)) = true := by decide +kernel
theorem GS_w : ∀ q ∈ GSl, Cond.fieldLink (clsN q.1) q.2.1 (gsC q.2.2) (gsN q.2.2) (gsD q.2.2) ∈ tblG ∧ (q.2.2 = 1 ∨ q.2.2 = 2 ∨ q.2.2 = 99) := by
  intro q hq
  obtain ⟨z, hz, rfl⟩ := List.mem_map.mp hq
  have h := List.all_eq_true.mp GS_c z hz
  simp only [Bool.and_eq_true, decide_eq_true_eq] at h
  exact ⟨inT_e h.1, h.2⟩
-- a method's own words
def mPl (y : Nat) : Nat × Nat × Nat × Nat := MPl.getD y (0, 0, 0, 0)
def okM (y : Nat) : Bool := (if mFl y = 0 then inT (mPl y).2.1 (.static (mNm y)) else inT (mPl y).2.1 (.instanceMethod (mNm y))) && (if mFl y = 1 then inT (mPl y).2.2.1 (.selects (mNm y).cls (mNm y) (mNm y)) else true) && inT (mPl y).2.2.2 (.initialized (mNm y).cls) &&
  decide ((mNm y).cls = clsN (mCn y)) && decide ((parseMethodDescriptor (mNm y).desc).map (fun d => d.parameters.length) = some (mNa y)) && decide (mMx y ≤ 45) && (if mFl y = 2 then decide ((mNm y).name = "<init>") && decide (mRt y = none) else true) &&
  decide ((mNm y).cls ≠ "java/lang/invoke/MethodHandle") && decide ((mNm y).cls ≠ "java/lang/invoke/VarHandle") && plainName (mNm y).cls
set_option maxRecDepth 20000 in
theorem okM_c : (List.range 190).all okM = true := by decide +kernel
theorem okM_all {y : Nat} (h : y < 190) : okM y = true := List.all_eq_true.mp okM_c y (List.mem_range.mpr h)
theorem ws_0 : ∀ ci, ci < 8 → ∀ w ∈ u_ws (clsN ci) (TT ci) (nfT ci), w ∈ lw_tbl ∧ goodWord w = true := by decide +kernel
theorem ws_in {ci : Nat} (h : ci < 8) : ∀ w ∈ u_ws (clsN ci) (TT ci) (nfT ci), w ∈ tblG := fun w hw => List.mem_filter.mpr (ws_0 ci h w hw)
theorem vw_at {ci : Nat} (h : ci < 8) : vwCl[ci]? = some (clsN ci, TT ci, nfT ci) := by
  rcases (show ci = 0 ∨ ci = 1 ∨ ci = 2 ∨ ci = 3 ∨ ci = 4 ∨ ci = 5 ∨ ci = 6 ∨ ci = 7 by omega) with h | h | h | h | h | h | h | h <;> subst h <;> rfl
theorem ty_ok {ci : Nat} (h : ci < 8) : ∀ k, k < nfT ci → parseFieldDescriptor (TT ci k).2.2.1 = some (tyT ci k) := by
  rcases (show ci = 0 ∨ ci = 1 ∨ ci = 2 ∨ ci = 3 ∨ ci = 4 ∨ ci = 5 ∨ ci = 6 ∨ ci = 7 by omega) with h | h | h | h | h | h | h | h <;> subst h
  · exact tyX0_ok
  · exact tyX1_ok
  · exact tyX2_ok
  · exact tyX3_ok
  · exact tyX4_ok
  · exact tyX5_ok
  · exact tyX6_ok
  · exact tyX7_ok
theorem nm_ok {ci : Nat} (h : ci < 8) : ∀ a, a < nfT ci → ∀ b, b < nfT ci → a ≠ b → (TT ci a).2.1 ≠ (TT ci b).2.1 := by
  rcases (show ci = 0 ∨ ci = 1 ∨ ci = 2 ∨ ci = 3 ∨ ci = 4 ∨ ci = 5 ∨ ci = 6 ∨ ci = 7 by omega) with h | h | h | h | h | h | h | h <;> subst h
  · exact nmX0
  · exact nmX1
  · exact nmX2
  · exact nmX3
  · exact nmX4
  · exact nmX5
  · exact nmX6
  · exact nmX7
theorem in_c : INl.all (fun q => decide (Cond.instantiable (clsN q.1) q.2.2 ∈ lw_tbl) && goodWord (Cond.instantiable (clsN q.1) q.2.2) && decide (Cond.initialized (clsN q.1) ∈ lw_tbl) && decide (q.2.2 = nfT q.1)) = true := by decide +kernel
theorem in_w {ci b : Nat} (h : ∃ i, (ci, i, b) ∈ INl) : Cond.instantiable (clsN ci) (nfT ci) ∈ tblG ∧ Cond.initialized (clsN ci) ∈ tblG ∧ b = nfT ci := by
  obtain ⟨i, h⟩ := h
  have h1 := List.all_eq_true.mp in_c _ h
  simp only [Bool.and_eq_true, decide_eq_true_eq] at h1
  obtain ⟨⟨⟨h2, h3⟩, h4⟩, h5⟩ := h1
  subst h5
  exact ⟨List.mem_filter.mpr ⟨h2, h3⟩, List.mem_filter.mpr ⟨h4, rfl⟩, rfl⟩
theorem tw {w : Cond} (h : w ∈ lw_tbl ∧ goodWord w = true) : w ∈ tblG := List.mem_filter.mpr h
theorem tw_int : Cond.arrayClass .int ∈ tblG := tw (by decide +kernel)
theorem tw_bool : Cond.arrayClass .boolean ∈ tblG := tw (by decide +kernel)
theorem tw_max : Cond.static Lib.Math.max.name ∈ tblG ∧ Cond.initialized "java/lang/Math" ∈ tblG ∧ Cond.code Lib.Math.max.name Lib.Math.max.code 2 (some .int) ∈ tblG := ⟨tw (by decide +kernel), tw (by decide +kernel), tw (by decide +kernel)⟩
theorem tw_min : Cond.static Lib.Math.min.name ∈ tblG ∧ Cond.code Lib.Math.min.name Lib.Math.min.code 2 (some .int) ∈ tblG := ⟨tw (by decide +kernel), tw (by decide +kernel)⟩
theorem tw_copy : Cond.native arraycopyName ∈ tblG ∧ Cond.static arraycopyName ∈ tblG ∧ Cond.initialized "java/lang/System" ∈ tblG := ⟨tw (by decide +kernel), tw (by decide +kernel), tw (by decide +kernel)⟩
theorem tw_clone : Cond.sameMethod "[I" "java/lang/Object" "clone" "()Ljava/lang/Object;" ∈ tblG ∧ Cond.native ⟨"java/lang/Object", "clone", "()Ljava/lang/Object;"⟩ ∈ tblG ∧ Cond.instanceMethod ⟨"java/lang/Object", "clone", "()Ljava/lang/Object;"⟩ ∈ tblG ∧ Cond.selects "[I" ⟨"[I", "clone", "()Ljava/lang/Object;"⟩ ⟨"java/lang/Object", "clone", "()Ljava/lang/Object;"⟩ ∈ tblG := ⟨tw (by decide +kernel), tw (by decide +kernel), tw (by decide +kernel), tw (by decide +kernel)⟩
theorem tw_obj : Cond.instanceMethod objectInit ∈ tblG ∧ Cond.code objectInit ⟨#[0xb1]⟩ 1 none ∈ tblG := ⟨tw (by decide +kernel), tw (by decide +kernel)⟩
end
section
/-! THE WORDS OF THE METHODS' BYTES -/
def cwP (y : Nat) : Prop := lw_tbl[(mPl y).1]? = some (.code (mNm y) (mCd y) (mMx y) (mRt y))
set_option maxRecDepth 20000 in
theorem cw_0 : cwP 0 := rfl
set_option maxRecDepth 20000 in
theorem cw_1 : cwP 1 := rfl
set_option maxRecDepth 20000 in
theorem cw_2 : cwP 2 := rfl
set_option maxRecDepth 20000 in
theorem cw_3 : cwP 3 := rfl
set_option maxRecDepth 20000 in
theorem cw_4 : cwP 4 := rfl
set_option maxRecDepth 20000 in
theorem cw_5 : cwP 5 := rfl
set_option maxRecDepth 20000 in
theorem cw_6 : cwP 6 := rfl
set_option maxRecDepth 20000 in
theorem cw_7 : cwP 7 := rfl
set_option maxRecDepth 20000 in
theorem cw_8 : cwP 8 := rfl
set_option maxRecDepth 20000 in
theorem cw_9 : cwP 9 := rfl
set_option maxRecDepth 20000 in
theorem cw_10 : cwP 10 := rfl
set_option maxRecDepth 20000 in
theorem cw_11 : cwP 11 := rfl
set_option maxRecDepth 20000 in
theorem cw_12 : cwP 12 := rfl
set_option maxRecDepth 20000 in
theorem cw_13 : cwP 13 := rfl
set_option maxRecDepth 20000 in
theorem cw_14 : cwP 14 := rfl
set_option maxRecDepth 20000 in
theorem cw_15 : cwP 15 := rfl
set_option maxRecDepth 20000 in
theorem cw_16 : cwP 16 := rfl
set_option maxRecDepth 20000 in
theorem cw_17 : cwP 17 := rfl
set_option maxRecDepth 20000 in
theorem cw_18 : cwP 18 := rfl
set_option maxRecDepth 20000 in
theorem cw_19 : cwP 19 := rfl
set_option maxRecDepth 20000 in
theorem cw_20 : cwP 20 := rfl
set_option maxRecDepth 20000 in
theorem cw_21 : cwP 21 := rfl
set_option maxRecDepth 20000 in
theorem cw_22 : cwP 22 := rfl
set_option maxRecDepth 20000 in
theorem cw_23 : cwP 23 := rfl
set_option maxRecDepth 20000 in
theorem cw_24 : cwP 24 := rfl
set_option maxRecDepth 20000 in
theorem cw_25 : cwP 25 := rfl
set_option maxRecDepth 20000 in
theorem cw_26 : cwP 26 := rfl
set_option maxRecDepth 20000 in
theorem cw_27 : cwP 27 := rfl
set_option maxRecDepth 20000 in
theorem cw_28 : cwP 28 := rfl
set_option maxRecDepth 20000 in
theorem cw_29 : cwP 29 := rfl
set_option maxRecDepth 20000 in
theorem cw_30 : cwP 30 := rfl
set_option maxRecDepth 20000 in
theorem cw_31 : cwP 31 := rfl
set_option maxRecDepth 20000 in
theorem cw_32 : cwP 32 := rfl
set_option maxRecDepth 20000 in
theorem cw_33 : cwP 33 := rfl
set_option maxRecDepth 20000 in
theorem cw_34 : cwP 34 := rfl
set_option maxRecDepth 20000 in
theorem cw_35 : cwP 35 := rfl
set_option maxRecDepth 20000 in
theorem cw_36 : cwP 36 := rfl
set_option maxRecDepth 20000 in
theorem cw_37 : cwP 37 := rfl
set_option maxRecDepth 20000 in
theorem cw_38 : cwP 38 := rfl
set_option maxRecDepth 20000 in
theorem cw_39 : cwP 39 := rfl
set_option maxRecDepth 20000 in
theorem cw_40 : cwP 40 := rfl
set_option maxRecDepth 20000 in
theorem cw_41 : cwP 41 := rfl
set_option maxRecDepth 20000 in
theorem cw_42 : cwP 42 := rfl
set_option maxRecDepth 20000 in
theorem cw_43 : cwP 43 := rfl
set_option maxRecDepth 20000 in
theorem cw_44 : cwP 44 := rfl
set_option maxRecDepth 20000 in
theorem cw_45 : cwP 45 := rfl
set_option maxRecDepth 20000 in
theorem cw_46 : cwP 46 := rfl
set_option maxRecDepth 20000 in
theorem cw_47 : cwP 47 := rfl
set_option maxRecDepth 20000 in
theorem cw_48 : cwP 48 := rfl
set_option maxRecDepth 20000 in
theorem cw_49 : cwP 49 := rfl
set_option maxRecDepth 20000 in
theorem cw_50 : cwP 50 := rfl
set_option maxRecDepth 20000 in
theorem cw_51 : cwP 51 := rfl
set_option maxRecDepth 20000 in
theorem cw_52 : cwP 52 := rfl
set_option maxRecDepth 20000 in
theorem cw_53 : cwP 53 := rfl
set_option maxRecDepth 20000 in
theorem cw_54 : cwP 54 := rfl
set_option maxRecDepth 20000 in
theorem cw_55 : cwP 55 := rfl
set_option maxRecDepth 20000 in
theorem cw_56 : cwP 56 := rfl
set_option maxRecDepth 20000 in
theorem cw_57 : cwP 57 := rfl
set_option maxRecDepth 20000 in
theorem cw_58 : cwP 58 := rfl
set_option maxRecDepth 20000 in
theorem cw_59 : cwP 59 := rfl
set_option maxRecDepth 20000 in
theorem cw_60 : cwP 60 := rfl
set_option maxRecDepth 20000 in
theorem cw_61 : cwP 61 := rfl
set_option maxRecDepth 20000 in
theorem cw_62 : cwP 62 := rfl
set_option maxRecDepth 20000 in
theorem cw_63 : cwP 63 := rfl
set_option maxRecDepth 20000 in
theorem cw_64 : cwP 64 := rfl
set_option maxRecDepth 20000 in
theorem cw_65 : cwP 65 := rfl
set_option maxRecDepth 20000 in
theorem cw_66 : cwP 66 := rfl
set_option maxRecDepth 20000 in
theorem cw_67 : cwP 67 := rfl
set_option maxRecDepth 20000 in
theorem cw_68 : cwP 68 := rfl
set_option maxRecDepth 20000 in
theorem cw_69 : cwP 69 := rfl
set_option maxRecDepth 20000 in
theorem cw_70 : cwP 70 := rfl
set_option maxRecDepth 20000 in
theorem cw_71 : cwP 71 := rfl
set_option maxRecDepth 20000 in
theorem cw_72 : cwP 72 := rfl
set_option maxRecDepth 20000 in
theorem cw_73 : cwP 73 := rfl
set_option maxRecDepth 20000 in
theorem cw_74 : cwP 74 := rfl
set_option maxRecDepth 20000 in
theorem cw_75 : cwP 75 := rfl
set_option maxRecDepth 20000 in
theorem cw_76 : cwP 76 := rfl
set_option maxRecDepth 20000 in
theorem cw_77 : cwP 77 := rfl
set_option maxRecDepth 20000 in
theorem cw_78 : cwP 78 := rfl
set_option maxRecDepth 20000 in
theorem cw_79 : cwP 79 := rfl
set_option maxRecDepth 20000 in
theorem cw_80 : cwP 80 := rfl
set_option maxRecDepth 20000 in
theorem cw_81 : cwP 81 := rfl
set_option maxRecDepth 20000 in
theorem cw_82 : cwP 82 := rfl
set_option maxRecDepth 20000 in
theorem cw_83 : cwP 83 := rfl
set_option maxRecDepth 20000 in
theorem cw_84 : cwP 84 := rfl
set_option maxRecDepth 20000 in
theorem cw_85 : cwP 85 := rfl
set_option maxRecDepth 20000 in
theorem cw_86 : cwP 86 := rfl
set_option maxRecDepth 20000 in
theorem cw_87 : cwP 87 := rfl
set_option maxRecDepth 20000 in
theorem cw_88 : cwP 88 := rfl
set_option maxRecDepth 20000 in
theorem cw_89 : cwP 89 := rfl
set_option maxRecDepth 20000 in
theorem cw_90 : cwP 90 := rfl
set_option maxRecDepth 20000 in
theorem cw_91 : cwP 91 := rfl
set_option maxRecDepth 20000 in
theorem cw_92 : cwP 92 := rfl
set_option maxRecDepth 20000 in
theorem cw_93 : cwP 93 := rfl
set_option maxRecDepth 20000 in
theorem cw_94 : cwP 94 := rfl
set_option maxRecDepth 20000 in
theorem cw_95 : cwP 95 := rfl
set_option maxRecDepth 20000 in
theorem cw_96 : cwP 96 := rfl
set_option maxRecDepth 20000 in
theorem cw_97 : cwP 97 := rfl
set_option maxRecDepth 20000 in
theorem cw_98 : cwP 98 := rfl
set_option maxRecDepth 20000 in
theorem cw_99 : cwP 99 := rfl
set_option maxRecDepth 20000 in
theorem cw_100 : cwP 100 := rfl
set_option maxRecDepth 20000 in
theorem cw_101 : cwP 101 := rfl
set_option maxRecDepth 20000 in
theorem cw_102 : cwP 102 := rfl
set_option maxRecDepth 20000 in
theorem cw_103 : cwP 103 := rfl
set_option maxRecDepth 20000 in
theorem cw_104 : cwP 104 := rfl
set_option maxRecDepth 20000 in
theorem cw_105 : cwP 105 := rfl
set_option maxRecDepth 20000 in
theorem cw_106 : cwP 106 := rfl
set_option maxRecDepth 20000 in
theorem cw_107 : cwP 107 := rfl
set_option maxRecDepth 20000 in
theorem cw_108 : cwP 108 := rfl
set_option maxRecDepth 20000 in
theorem cw_109 : cwP 109 := rfl
set_option maxRecDepth 20000 in
theorem cw_110 : cwP 110 := rfl
set_option maxRecDepth 20000 in
theorem cw_111 : cwP 111 := rfl
set_option maxRecDepth 20000 in
theorem cw_112 : cwP 112 := rfl
set_option maxRecDepth 20000 in
theorem cw_113 : cwP 113 := rfl
set_option maxRecDepth 20000 in
theorem cw_114 : cwP 114 := rfl
set_option maxRecDepth 20000 in
theorem cw_115 : cwP 115 := rfl
set_option maxRecDepth 20000 in
theorem cw_116 : cwP 116 := rfl
set_option maxRecDepth 20000 in
theorem cw_117 : cwP 117 := rfl
set_option maxRecDepth 20000 in
theorem cw_118 : cwP 118 := rfl
set_option maxRecDepth 20000 in
theorem cw_119 : cwP 119 := rfl
set_option maxRecDepth 20000 in
theorem cw_120 : cwP 120 := rfl
set_option maxRecDepth 20000 in
theorem cw_121 : cwP 121 := rfl
set_option maxRecDepth 20000 in
theorem cw_122 : cwP 122 := rfl
set_option maxRecDepth 20000 in
theorem cw_123 : cwP 123 := rfl
set_option maxRecDepth 20000 in
theorem cw_124 : cwP 124 := rfl
set_option maxRecDepth 20000 in
theorem cw_125 : cwP 125 := rfl
set_option maxRecDepth 20000 in
theorem cw_126 : cwP 126 := rfl
set_option maxRecDepth 20000 in
theorem cw_127 : cwP 127 := rfl
set_option maxRecDepth 20000 in
theorem cw_128 : cwP 128 := rfl
set_option maxRecDepth 20000 in
theorem cw_129 : cwP 129 := rfl
set_option maxRecDepth 20000 in
theorem cw_130 : cwP 130 := rfl
set_option maxRecDepth 20000 in
theorem cw_131 : cwP 131 := rfl
set_option maxRecDepth 20000 in
theorem cw_132 : cwP 132 := rfl
set_option maxRecDepth 20000 in
theorem cw_133 : cwP 133 := rfl
set_option maxRecDepth 20000 in
theorem cw_134 : cwP 134 := rfl
set_option maxRecDepth 20000 in
theorem cw_135 : cwP 135 := rfl
set_option maxRecDepth 20000 in
theorem cw_136 : cwP 136 := rfl
set_option maxRecDepth 20000 in
theorem cw_137 : cwP 137 := rfl
set_option maxRecDepth 20000 in
theorem cw_138 : cwP 138 := rfl
set_option maxRecDepth 20000 in
theorem cw_139 : cwP 139 := rfl
set_option maxRecDepth 20000 in
theorem cw_140 : cwP 140 := rfl
set_option maxRecDepth 20000 in
theorem cw_141 : cwP 141 := rfl
set_option maxRecDepth 20000 in
theorem cw_142 : cwP 142 := rfl
set_option maxRecDepth 20000 in
theorem cw_143 : cwP 143 := rfl
set_option maxRecDepth 20000 in
theorem cw_144 : cwP 144 := rfl
set_option maxRecDepth 20000 in
theorem cw_145 : cwP 145 := rfl
set_option maxRecDepth 20000 in
theorem cw_146 : cwP 146 := rfl
set_option maxRecDepth 20000 in
theorem cw_147 : cwP 147 := rfl
set_option maxRecDepth 20000 in
theorem cw_148 : cwP 148 := rfl
set_option maxRecDepth 20000 in
theorem cw_149 : cwP 149 := rfl
set_option maxRecDepth 20000 in
theorem cw_150 : cwP 150 := rfl
set_option maxRecDepth 20000 in
theorem cw_151 : cwP 151 := rfl
set_option maxRecDepth 20000 in
theorem cw_152 : cwP 152 := rfl
set_option maxRecDepth 20000 in
theorem cw_153 : cwP 153 := rfl
set_option maxRecDepth 20000 in
theorem cw_154 : cwP 154 := rfl
set_option maxRecDepth 20000 in
theorem cw_155 : cwP 155 := rfl
set_option maxRecDepth 20000 in
theorem cw_156 : cwP 156 := rfl
set_option maxRecDepth 20000 in
theorem cw_157 : cwP 157 := rfl
set_option maxRecDepth 20000 in
theorem cw_158 : cwP 158 := rfl
set_option maxRecDepth 20000 in
theorem cw_159 : cwP 159 := rfl
set_option maxRecDepth 20000 in
theorem cw_160 : cwP 160 := rfl
set_option maxRecDepth 20000 in
theorem cw_161 : cwP 161 := rfl
set_option maxRecDepth 20000 in
theorem cw_162 : cwP 162 := rfl
set_option maxRecDepth 20000 in
theorem cw_163 : cwP 163 := rfl
set_option maxRecDepth 20000 in
theorem cw_164 : cwP 164 := rfl
set_option maxRecDepth 20000 in
theorem cw_165 : cwP 165 := rfl
set_option maxRecDepth 20000 in
theorem cw_166 : cwP 166 := rfl
set_option maxRecDepth 20000 in
theorem cw_167 : cwP 167 := rfl
set_option maxRecDepth 20000 in
theorem cw_168 : cwP 168 := rfl
set_option maxRecDepth 20000 in
theorem cw_169 : cwP 169 := rfl
set_option maxRecDepth 20000 in
theorem cw_170 : cwP 170 := rfl
set_option maxRecDepth 20000 in
theorem cw_171 : cwP 171 := rfl
set_option maxRecDepth 20000 in
theorem cw_172 : cwP 172 := rfl
set_option maxRecDepth 20000 in
theorem cw_173 : cwP 173 := rfl
set_option maxRecDepth 20000 in
theorem cw_174 : cwP 174 := rfl
set_option maxRecDepth 20000 in
theorem cw_175 : cwP 175 := rfl
set_option maxRecDepth 20000 in
theorem cw_176 : cwP 176 := rfl
set_option maxRecDepth 20000 in
theorem cw_177 : cwP 177 := rfl
set_option maxRecDepth 20000 in
theorem cw_178 : cwP 178 := rfl
set_option maxRecDepth 20000 in
theorem cw_179 : cwP 179 := rfl
set_option maxRecDepth 20000 in
theorem cw_180 : cwP 180 := rfl
set_option maxRecDepth 20000 in
theorem cw_181 : cwP 181 := rfl
set_option maxRecDepth 20000 in
theorem cw_182 : cwP 182 := rfl
set_option maxRecDepth 20000 in
theorem cw_183 : cwP 183 := rfl
set_option maxRecDepth 20000 in
theorem cw_184 : cwP 184 := rfl
set_option maxRecDepth 20000 in
theorem cw_185 : cwP 185 := rfl
set_option maxRecDepth 20000 in
theorem cw_186 : cwP 186 := rfl
set_option maxRecDepth 20000 in
theorem cw_187 : cwP 187 := rfl
set_option maxRecDepth 20000 in
theorem cw_188 : cwP 188 := rfl
set_option maxRecDepth 20000 in
theorem cw_189 : cwP 189 := rfl
theorem cwA_0 : ∀ a, a < 10 → cwP a := (lt_s (lt_s (lt_s (lt_s (lt_s (lt_s (lt_s (lt_s (lt_s (lt_s (lt_0 (p := cwP)) cw_0) cw_1) cw_2) cw_3) cw_4) cw_5) cw_6) cw_7) cw_8) cw_9)
theorem cwA_1 : ∀ a, a < 20 → cwP a := (lt_s (lt_s (lt_s (lt_s (lt_s (lt_s (lt_s (lt_s (lt_s (lt_s cwA_0 cw_10) cw_11) cw_12) cw_13) cw_14) cw_15) cw_16) cw_17) cw_18) cw_19)
theorem cwA_2 : ∀ a, a < 30 → cwP a := (lt_s (lt_s (lt_s (lt_s (lt_s (lt_s (lt_s (lt_s (lt_s (lt_s cwA_1 cw_20) cw_21) cw_22) cw_23) cw_24) cw_25) cw_26) cw_27) cw_28) cw_29)
theorem cwA_3 : ∀ a, a < 40 → cwP a := (lt_s (lt_s (lt_s (lt_s (lt_s (lt_s (lt_s (lt_s (lt_s (lt_s cwA_2 cw_30) cw_31) cw_32) cw_33) cw_34) cw_35) cw_36) cw_37) cw_38) cw_39)
theorem cwA_4 : ∀ a, a < 50 → cwP a := (lt_s (lt_s (lt_s (lt_s (lt_s (lt_s (lt_s (lt_s (lt_s (lt_s cwA_3 cw_40) cw_41) cw_42) cw_43) cw_44) cw_45) cw_46) cw_47) cw_48) cw_49)
theorem cwA_5 : ∀ a, a < 60 → cwP a := (lt_s (lt_s (lt_s (lt_s (lt_s (lt_s (lt_s (lt_s (lt_s (lt_s cwA_4 cw_50) cw_51) cw_52) cw_53) cw_54) cw_55) cw_56) cw_57) cw_58) cw_59)
theorem cwA_6 : ∀ a, a < 70 → cwP a := (lt_s (lt_s (lt_s (lt_s (lt_s (lt_s (lt_s (lt_s (lt_s (lt_s cwA_5 cw_60) cw_61) cw_62) cw_63) cw_64) cw_65) cw_66) cw_67) cw_68) cw_69)
theorem cwA_7 : ∀ a, a < 80 → cwP a := (lt_s (lt_s (lt_s (lt_s (lt_s (lt_s (lt_s (lt_s (lt_s (lt_s cwA_6 cw_70) cw_71) cw_72) cw_73) cw_74) cw_75) cw_76) cw_77) cw_78) cw_79)
theorem cwA_8 : ∀ a, a < 90 → cwP a := (lt_s (lt_s (lt_s (lt_s (lt_s (lt_s (lt_s (lt_s (lt_s (lt_s cwA_7 cw_80) cw_81) cw_82) cw_83) cw_84) cw_85) cw_86) cw_87) cw_88) cw_89)
theorem cwA_9 : ∀ a, a < 100 → cwP a := (lt_s (lt_s (lt_s (lt_s (lt_s (lt_s (lt_s (lt_s (lt_s (lt_s cwA_8 cw_90) cw_91) cw_92) cw_93) cw_94) cw_95) cw_96) cw_97) cw_98) cw_99)
theorem cwA_10 : ∀ a, a < 110 → cwP a := (lt_s (lt_s (lt_s (lt_s (lt_s (lt_s (lt_s (lt_s (lt_s (lt_s cwA_9 cw_100) cw_101) cw_102) cw_103) cw_104) cw_105) cw_106) cw_107) cw_108) cw_109)
theorem cwA_11 : ∀ a, a < 120 → cwP a := (lt_s (lt_s (lt_s (lt_s (lt_s (lt_s (lt_s (lt_s (lt_s (lt_s cwA_10 cw_110) cw_111) cw_112) cw_113) cw_114) cw_115) cw_116) cw_117) cw_118) cw_119)
theorem cwA_12 : ∀ a, a < 130 → cwP a := (lt_s (lt_s (lt_s (lt_s (lt_s (lt_s (lt_s (lt_s (lt_s (lt_s cwA_11 cw_120) cw_121) cw_122) cw_123) cw_124) cw_125) cw_126) cw_127) cw_128) cw_129)
theorem cwA_13 : ∀ a, a < 140 → cwP a := (lt_s (lt_s (lt_s (lt_s (lt_s (lt_s (lt_s (lt_s (lt_s (lt_s cwA_12 cw_130) cw_131) cw_132) cw_133) cw_134) cw_135) cw_136) cw_137) cw_138) cw_139)
theorem cwA_14 : ∀ a, a < 150 → cwP a := (lt_s (lt_s (lt_s (lt_s (lt_s (lt_s (lt_s (lt_s (lt_s (lt_s cwA_13 cw_140) cw_141) cw_142) cw_143) cw_144) cw_145) cw_146) cw_147) cw_148) cw_149)
theorem cwA_15 : ∀ a, a < 160 → cwP a := (lt_s (lt_s (lt_s (lt_s (lt_s (lt_s (lt_s (lt_s (lt_s (lt_s cwA_14 cw_150) cw_151) cw_152) cw_153) cw_154) cw_155) cw_156) cw_157) cw_158) cw_159)
theorem cwA_16 : ∀ a, a < 170 → cwP a := (lt_s (lt_s (lt_s (lt_s (lt_s (lt_s (lt_s (lt_s (lt_s (lt_s cwA_15 cw_160) cw_161) cw_162) cw_163) cw_164) cw_165) cw_166) cw_167) cw_168) cw_169)
theorem cwA_17 : ∀ a, a < 180 → cwP a := (lt_s (lt_s (lt_s (lt_s (lt_s (lt_s (lt_s (lt_s (lt_s (lt_s cwA_16 cw_170) cw_171) cw_172) cw_173) cw_174) cw_175) cw_176) cw_177) cw_178) cw_179)
theorem cwA_18 : ∀ a, a < 190 → cwP a := (lt_s (lt_s (lt_s (lt_s (lt_s (lt_s (lt_s (lt_s (lt_s (lt_s cwA_17 cw_180) cw_181) cw_182) cw_183) cw_184) cw_185) cw_186) cw_187) cw_188) cw_189)
theorem cw_in {y : Nat} (h : y < 190) : Cond.code (mNm y) (mCd y) (mMx y) (mRt y) ∈ tblG := tblG_of (cwA_18 y h) rfl
end
section
/-! THE CODE: each instruction of the tables is what the bytes decode to, and its resolution is the tables' -/
def swO (pc : Nat) (o : Int) : Bool := decide (0 ≤ (pc : Int) + o)
def okR (y pc : Nat) (r : RI) : Bool :=
  match r with
  | (i, nx, kd, a, b, v) =>
  match i with
  | .iconst n => nx == pc + 1 && decide (Int32.ofInt n = v)
  | .bipush n => nx == pc + 2 && decide ((Int8.ofInt n).toInt32 = v)
  | .sipush n => nx == pc + 3 && decide ((Int16.ofInt n).toInt32 = v)
  | .ldc k => nx == pc + 2 && (if a = 0 then decide ((mCn y, k, v) ∈ COl) else decide ((mCn y, k, a) ∈ SRl))
  | .ldc_w k => nx == pc + 3 && decide ((mCn y, k, v) ∈ COl)
  | .ldc2_w k => nx == pc + 3 && decide ((mCn y, k, a) ∈ C2l)
  | .iload _ => nx == pc + 2
  | .aload _ => nx == pc + 2
  | .istore _ => nx == pc + 2
  | .astore _ => nx == pc + 2
  | .iinc _ n => nx == pc + 3 && decide (Int32.ofInt n = v)
  | .goto o => nx == pc + 3 && decide ((pc : Int) + o = (a : Int))
  | .ifnull o => nx == pc + 3 && decide ((pc : Int) + o = (a : Int))
  | .ifnonnull o => nx == pc + 3 && decide ((pc : Int) + o = (a : Int))
  | .ifCond _ o => nx == pc + 3 && decide ((pc : Int) + o = (a : Int))
  | .if_icmp _ o => nx == pc + 3 && decide ((pc : Int) + o = (a : Int))
  | .tableswitch d lo hi offs => swO pc d && offs.toList.all (swO pc)
  | .lookupswitch d ps => (ps.toList.zip (ps.toList.drop 1)).all (fun (a, next) => a.1 < next.1) && swO pc d && ps.toList.all (fun q => swO pc q.2)
  | .getfield k => nx == pc + 3 && (if a = 60 then decide ((mCn y, k, b) ∈ SFl) else decide ((mCn y, k, a, b) ∈ FLl))
  | .putfield k => nx == pc + 3 && decide ((mCn y, k, a, b) ∈ FLl) && (if (TT a b).2.2.2 = true then decide (mFl y = 2) && decide ((TT a b).1 = clsN (mCn y)) else true)
  | .getstatic k => nx == pc + 3 && decide ((mCn y, k, a) ∈ GSl)
  | .new k => nx == pc + 3 && decide ((mCn y, k, a) ∈ CLl) && decide (a < 8) && INl.any (fun q => q.1 == a && q.2.2 == b)
  | .newarray t => nx == pc + 2 && (decide (t = .int ∧ a = 0) || decide (t = .boolean ∧ a = 1))
  | .anewarray k => nx == pc + 3 && decide ((mCn y, k, 3) ∈ CLl)
  | .checkcast k => nx == pc + 3 && decide ((mCn y, k, 90) ∈ CLl)
  | .invokestatic k => nx == pc + 3 && (match kd with
    | 0 => decide ((mCn y, k, a, 0) ∈ MLl) && decide (b = mNa a) && decide (mFl a = 0) && decide (a < 190)
    | 1 => decide ((mCn y, k, a, 1) ∈ NLl) && decide (b = mNa a) && decide (mFl a = 0) && decide (a < 190)
    | 2 => decide ((mCn y, k, 2) ∈ MSl)
    | 3 => decide ((mCn y, k, 3) ∈ MSl)
    | 4 => decide ((mCn y, k, 4) ∈ MSl)
    | _ => false)
  | .invokevirtual k => nx == pc + 3 && (match kd with
    | 20 => decide ((mCn y, k, a, 20) ∈ MLl) && decide (b = mNa a) && decide (mFl a = 1) && decide (a < 190)
    | 5 => decide ((mCn y, k, 5) ∈ MSl)
    | _ => false)
  | .invokespecial k => nx == pc + 3 && (match kd with
    | 10 => decide ((mCn y, k, a, 10) ∈ MLl) && decide (b = mNa a) && decide (mFl a = 2) && decide (a < 190)
    | 11 => decide ((mCn y, k, a, 11) ∈ NLl) && decide (b = mNa a) && decide (mFl a = 2) && decide (a < 190)
    | 12 => decide ((mCn y, k, 12) ∈ MSl)
    | _ => false)
  | .areturn => nx == pc + 1 && (match mRt y with
    | some (.object _) => true
    | some (.array _) => true
    | _ => false)
  | .return_ => nx == pc + 1 && decide (mRt y = none)
  | _ => nx == pc + 1
def ckR (y pc : Nat) (o : Option RI) : Bool := match o with
  | none => true
  | some r => decide (decode (mCd y) pc = .ok (r.1, r.2.1 - pc)) && okR y pc r
def ckP (y : Nat) (k : Nat) : List (Option RI) → Bool
  | [] => true
  | o :: l => ckR y k o && ckP y (k + 1) l
abbrev dkP (y : Nat) : Prop := ckP y 0 (allT.getD y []) = true
theorem ckP_e {y : Nat} : ∀ (l : List (Option RI)) (k pc : Nat) (r : RI), ckP y k l = true → l.getD pc none = some r → decode (mCd y) (k + pc) = .ok (r.1, r.2.1 - (k + pc)) ∧ okR y (k + pc) r = true := by
  intro l
  induction l with
  | nil => intro k pc r _ h; simp at h
  | cons o l ih =>
    intro k pc r h hr
    rw [ckP, Bool.and_eq_true] at h
    cases pc with
    | zero =>
      have hr : o = some r := by simpa using hr
      subst hr
      have h1 := h.1
      rw [ckR, Bool.and_eq_true, decide_eq_true_eq] at h1
      exact h1
    | succ pc =>
      have := ih (k + 1) pc r h.2 (by simpa using hr)
      rwa [show k + 1 + pc = k + (pc + 1) by omega] at this
set_option maxRecDepth 20000 in
theorem dk_0 : dkP 0 := by decide +kernel
set_option maxRecDepth 20000 in
theorem dk_1 : dkP 1 := by decide +kernel
set_option maxRecDepth 20000 in
theorem dk_2 : dkP 2 := by decide +kernel
set_option maxRecDepth 20000 in
theorem dk_3 : dkP 3 := by decide +kernel
set_option maxRecDepth 20000 in
theorem dk_4 : dkP 4 := by decide +kernel
set_option maxRecDepth 20000 in
theorem dk_5 : dkP 5 := by decide +kernel
set_option maxRecDepth 20000 in
theorem dk_6 : dkP 6 := by decide +kernel
set_option maxRecDepth 20000 in
theorem dk_7 : dkP 7 := by decide +kernel
set_option maxRecDepth 20000 in
theorem dk_8 : dkP 8 := by decide +kernel
set_option maxRecDepth 20000 in
theorem dk_9 : dkP 9 := by decide +kernel
set_option maxRecDepth 20000 in
theorem dk_10 : dkP 10 := by decide +kernel
set_option maxRecDepth 20000 in
theorem dk_11 : dkP 11 := by decide +kernel
set_option maxRecDepth 20000 in
theorem dk_12 : dkP 12 := by decide +kernel
set_option maxRecDepth 20000 in
theorem dk_13 : dkP 13 := by decide +kernel
set_option maxRecDepth 20000 in
theorem dk_14 : dkP 14 := by decide +kernel
set_option maxRecDepth 20000 in
theorem dk_15 : dkP 15 := by decide +kernel
set_option maxRecDepth 20000 in
theorem dk_16 : dkP 16 := by decide +kernel
set_option maxRecDepth 20000 in
theorem dk_17 : dkP 17 := by decide +kernel
set_option maxRecDepth 20000 in
theorem dk_18 : dkP 18 := by decide +kernel
set_option maxRecDepth 20000 in
theorem dk_19 : dkP 19 := by decide +kernel
set_option maxRecDepth 20000 in
theorem dk_20 : dkP 20 := by decide +kernel
set_option maxRecDepth 20000 in
theorem dk_21 : dkP 21 := by decide +kernel
set_option maxRecDepth 20000 in
theorem dk_22 : dkP 22 := by decide +kernel
set_option maxRecDepth 20000 in
theorem dk_23 : dkP 23 := by decide +kernel
set_option maxRecDepth 20000 in
theorem dk_24 : dkP 24 := by decide +kernel
set_option maxRecDepth 20000 in
theorem dk_25 : dkP 25 := by decide +kernel
set_option maxRecDepth 20000 in
theorem dk_26 : dkP 26 := by decide +kernel
set_option maxRecDepth 20000 in
theorem dk_27 : dkP 27 := by decide +kernel
set_option maxRecDepth 20000 in
theorem dk_28 : dkP 28 := by decide +kernel
set_option maxRecDepth 20000 in
theorem dk_29 : dkP 29 := by decide +kernel
set_option maxRecDepth 20000 in
theorem dk_30 : dkP 30 := by decide +kernel
set_option maxRecDepth 20000 in
theorem dk_31 : dkP 31 := by decide +kernel
set_option maxRecDepth 20000 in
theorem dk_32 : dkP 32 := by decide +kernel
set_option maxRecDepth 20000 in
theorem dk_33 : dkP 33 := by decide +kernel
set_option maxRecDepth 20000 in
theorem dk_34 : dkP 34 := by decide +kernel
set_option maxRecDepth 20000 in
theorem dk_35 : dkP 35 := by decide +kernel
set_option maxRecDepth 20000 in
theorem dk_36 : dkP 36 := by decide +kernel
set_option maxRecDepth 20000 in
theorem dk_37 : dkP 37 := by decide +kernel
set_option maxRecDepth 20000 in
theorem dk_38 : dkP 38 := by decide +kernel
set_option maxRecDepth 20000 in
theorem dk_39 : dkP 39 := by decide +kernel
set_option maxRecDepth 20000 in
theorem dk_40 : dkP 40 := by decide +kernel
set_option maxRecDepth 20000 in
theorem dk_41 : dkP 41 := by decide +kernel
set_option maxRecDepth 20000 in
theorem dk_42 : dkP 42 := by decide +kernel
set_option maxRecDepth 20000 in
theorem dk_43 : dkP 43 := by decide +kernel
set_option maxRecDepth 20000 in
theorem dk_44 : dkP 44 := by decide +kernel
set_option maxRecDepth 20000 in
theorem dk_45 : dkP 45 := by decide +kernel
set_option maxRecDepth 20000 in
theorem dk_46 : dkP 46 := by decide +kernel
set_option maxRecDepth 20000 in
theorem dk_47 : dkP 47 := by decide +kernel
set_option maxRecDepth 20000 in
theorem dk_48 : dkP 48 := by decide +kernel
set_option maxRecDepth 20000 in
theorem dk_49 : dkP 49 := by decide +kernel
set_option maxRecDepth 20000 in
theorem dk_50 : dkP 50 := by decide +kernel
set_option maxRecDepth 20000 in
theorem dk_51 : dkP 51 := by decide +kernel
set_option maxRecDepth 20000 in
theorem dk_52 : dkP 52 := by decide +kernel
set_option maxRecDepth 20000 in
theorem dk_53 : dkP 53 := by decide +kernel
set_option maxRecDepth 20000 in
theorem dk_54 : dkP 54 := by decide +kernel
set_option maxRecDepth 20000 in
theorem dk_55 : dkP 55 := by decide +kernel
set_option maxRecDepth 20000 in
theorem dk_56 : dkP 56 := by decide +kernel
set_option maxRecDepth 20000 in
theorem dk_57 : dkP 57 := by decide +kernel
set_option maxRecDepth 20000 in
theorem dk_58 : dkP 58 := by decide +kernel
set_option maxRecDepth 20000 in
theorem dk_59 : dkP 59 := by decide +kernel
set_option maxRecDepth 20000 in
theorem dk_60 : dkP 60 := by decide +kernel
set_option maxRecDepth 20000 in
theorem dk_61 : dkP 61 := by decide +kernel
set_option maxRecDepth 20000 in
theorem dk_62 : dkP 62 := by decide +kernel
set_option maxRecDepth 20000 in
theorem dk_63 : dkP 63 := by decide +kernel
set_option maxRecDepth 20000 in
theorem dk_64 : dkP 64 := by decide +kernel
set_option maxRecDepth 20000 in
theorem dk_65 : dkP 65 := by decide +kernel
set_option maxRecDepth 20000 in
theorem dk_66 : dkP 66 := by decide +kernel
set_option maxRecDepth 20000 in
theorem dk_67 : dkP 67 := by decide +kernel
set_option maxRecDepth 20000 in
theorem dk_68 : dkP 68 := by decide +kernel
set_option maxRecDepth 20000 in
theorem dk_69 : dkP 69 := by decide +kernel
set_option maxRecDepth 20000 in
theorem dk_70 : dkP 70 := by decide +kernel
set_option maxRecDepth 20000 in
theorem dk_71 : dkP 71 := by decide +kernel
set_option maxRecDepth 20000 in
theorem dk_72 : dkP 72 := by decide +kernel
set_option maxRecDepth 20000 in
theorem dk_73 : dkP 73 := by decide +kernel
set_option maxRecDepth 20000 in
theorem dk_74 : dkP 74 := by decide +kernel
set_option maxRecDepth 20000 in
theorem dk_75 : dkP 75 := by decide +kernel
set_option maxRecDepth 20000 in
theorem dk_76 : dkP 76 := by decide +kernel
set_option maxRecDepth 20000 in
theorem dk_77 : dkP 77 := by decide +kernel
set_option maxRecDepth 20000 in
theorem dk_78 : dkP 78 := by decide +kernel
set_option maxRecDepth 20000 in
theorem dk_79 : dkP 79 := by decide +kernel
set_option maxRecDepth 20000 in
theorem dk_80 : dkP 80 := by decide +kernel
set_option maxRecDepth 20000 in
theorem dk_81 : dkP 81 := by decide +kernel
set_option maxRecDepth 20000 in
theorem dk_82 : dkP 82 := by decide +kernel
set_option maxRecDepth 20000 in
theorem dk_83 : dkP 83 := by decide +kernel
set_option maxRecDepth 20000 in
theorem dk_84 : dkP 84 := by decide +kernel
set_option maxRecDepth 20000 in
theorem dk_85 : dkP 85 := by decide +kernel
set_option maxRecDepth 20000 in
theorem dk_86 : dkP 86 := by decide +kernel
set_option maxRecDepth 20000 in
theorem dk_87 : dkP 87 := by decide +kernel
set_option maxRecDepth 20000 in
theorem dk_88 : dkP 88 := by decide +kernel
set_option maxRecDepth 20000 in
theorem dk_89 : dkP 89 := by decide +kernel
set_option maxRecDepth 20000 in
theorem dk_90 : dkP 90 := by decide +kernel
set_option maxRecDepth 20000 in
theorem dk_91 : dkP 91 := by decide +kernel
set_option maxRecDepth 20000 in
theorem dk_92 : dkP 92 := by decide +kernel
set_option maxRecDepth 20000 in
theorem dk_93 : dkP 93 := by decide +kernel
set_option maxRecDepth 20000 in
theorem dk_94 : dkP 94 := by decide +kernel
set_option maxRecDepth 20000 in
theorem dk_95 : dkP 95 := by decide +kernel
set_option maxRecDepth 20000 in
theorem dk_96 : dkP 96 := by decide +kernel
set_option maxRecDepth 20000 in
theorem dk_97 : dkP 97 := by decide +kernel
set_option maxRecDepth 20000 in
theorem dk_98 : dkP 98 := by decide +kernel
set_option maxRecDepth 20000 in
theorem dk_99 : dkP 99 := by decide +kernel
set_option maxRecDepth 20000 in
theorem dk_100 : dkP 100 := by decide +kernel
set_option maxRecDepth 20000 in
theorem dk_101 : dkP 101 := by decide +kernel
set_option maxRecDepth 20000 in
theorem dk_102 : dkP 102 := by decide +kernel
set_option maxRecDepth 20000 in
theorem dk_103 : dkP 103 := by decide +kernel
set_option maxRecDepth 20000 in
theorem dk_104 : dkP 104 := by decide +kernel
set_option maxRecDepth 20000 in
theorem dk_105 : dkP 105 := by decide +kernel
set_option maxRecDepth 20000 in
theorem dk_106 : dkP 106 := by decide +kernel
set_option maxRecDepth 20000 in
theorem dk_107 : dkP 107 := by decide +kernel
set_option maxRecDepth 20000 in
theorem dk_108 : dkP 108 := by decide +kernel
set_option maxRecDepth 20000 in
theorem dk_109 : dkP 109 := by decide +kernel
set_option maxRecDepth 20000 in
theorem dk_110 : dkP 110 := by decide +kernel
set_option maxRecDepth 20000 in
theorem dk_111 : dkP 111 := by decide +kernel
set_option maxRecDepth 20000 in
theorem dk_112 : dkP 112 := by decide +kernel
set_option maxRecDepth 20000 in
theorem dk_113 : dkP 113 := by decide +kernel
set_option maxRecDepth 20000 in
theorem dk_114 : dkP 114 := by decide +kernel
set_option maxRecDepth 20000 in
theorem dk_115 : dkP 115 := by decide +kernel
set_option maxRecDepth 20000 in
theorem dk_116 : dkP 116 := by decide +kernel
set_option maxRecDepth 20000 in
theorem dk_117 : dkP 117 := by decide +kernel
set_option maxRecDepth 20000 in
theorem dk_118 : dkP 118 := by decide +kernel
set_option maxRecDepth 20000 in
theorem dk_119 : dkP 119 := by decide +kernel
set_option maxRecDepth 20000 in
theorem dk_120 : dkP 120 := by decide +kernel
set_option maxRecDepth 20000 in
theorem dk_121 : dkP 121 := by decide +kernel
set_option maxRecDepth 20000 in
theorem dk_122 : dkP 122 := by decide +kernel
set_option maxRecDepth 20000 in
theorem dk_123 : dkP 123 := by decide +kernel
set_option maxRecDepth 20000 in
theorem dk_124 : dkP 124 := by decide +kernel
set_option maxRecDepth 20000 in
theorem dk_125 : dkP 125 := by decide +kernel
set_option maxRecDepth 20000 in
theorem dk_126 : dkP 126 := by decide +kernel
set_option maxRecDepth 20000 in
theorem dk_127 : dkP 127 := by decide +kernel
set_option maxRecDepth 20000 in
theorem dk_128 : dkP 128 := by decide +kernel
set_option maxRecDepth 20000 in
theorem dk_129 : dkP 129 := by decide +kernel
set_option maxRecDepth 20000 in
theorem dk_130 : dkP 130 := by decide +kernel
set_option maxRecDepth 20000 in
theorem dk_131 : dkP 131 := by decide +kernel
set_option maxRecDepth 20000 in
theorem dk_132 : dkP 132 := by decide +kernel
set_option maxRecDepth 20000 in
theorem dk_133 : dkP 133 := by decide +kernel
set_option maxRecDepth 20000 in
theorem dk_134 : dkP 134 := by decide +kernel
set_option maxRecDepth 20000 in
theorem dk_135 : dkP 135 := by decide +kernel
set_option maxRecDepth 20000 in
theorem dk_136 : dkP 136 := by decide +kernel
set_option maxRecDepth 20000 in
theorem dk_137 : dkP 137 := by decide +kernel
set_option maxRecDepth 20000 in
theorem dk_138 : dkP 138 := by decide +kernel
set_option maxRecDepth 20000 in
theorem dk_139 : dkP 139 := by decide +kernel
set_option maxRecDepth 20000 in
theorem dk_140 : dkP 140 := by decide +kernel
set_option maxRecDepth 20000 in
theorem dk_141 : dkP 141 := by decide +kernel
set_option maxRecDepth 20000 in
theorem dk_142 : dkP 142 := by decide +kernel
set_option maxRecDepth 20000 in
theorem dk_143 : dkP 143 := by decide +kernel
set_option maxRecDepth 20000 in
theorem dk_144 : dkP 144 := by decide +kernel
set_option maxRecDepth 20000 in
theorem dk_145 : dkP 145 := by decide +kernel
set_option maxRecDepth 20000 in
theorem dk_146 : dkP 146 := by decide +kernel
set_option maxRecDepth 20000 in
theorem dk_147 : dkP 147 := by decide +kernel
set_option maxRecDepth 20000 in
theorem dk_148 : dkP 148 := by decide +kernel
set_option maxRecDepth 20000 in
theorem dk_149 : dkP 149 := by decide +kernel
set_option maxRecDepth 20000 in
theorem dk_150 : dkP 150 := by decide +kernel
set_option maxRecDepth 20000 in
theorem dk_151 : dkP 151 := by decide +kernel
set_option maxRecDepth 20000 in
theorem dk_152 : dkP 152 := by decide +kernel
set_option maxRecDepth 20000 in
theorem dk_153 : dkP 153 := by decide +kernel
set_option maxRecDepth 20000 in
theorem dk_154 : dkP 154 := by decide +kernel
set_option maxRecDepth 20000 in
theorem dk_155 : dkP 155 := by decide +kernel
set_option maxRecDepth 20000 in
theorem dk_156 : dkP 156 := by decide +kernel
set_option maxRecDepth 20000 in
theorem dk_157 : dkP 157 := by decide +kernel
set_option maxRecDepth 20000 in
theorem dk_158 : dkP 158 := by decide +kernel
set_option maxRecDepth 20000 in
theorem dk_159 : dkP 159 := by decide +kernel
set_option maxRecDepth 20000 in
theorem dk_160 : dkP 160 := by decide +kernel
set_option maxRecDepth 20000 in
theorem dk_161 : dkP 161 := by decide +kernel
set_option maxRecDepth 20000 in
theorem dk_162 : dkP 162 := by decide +kernel
set_option maxRecDepth 20000 in
theorem dk_163 : dkP 163 := by decide +kernel
set_option maxRecDepth 20000 in
theorem dk_164 : dkP 164 := by decide +kernel
set_option maxRecDepth 20000 in
theorem dk_165 : dkP 165 := by decide +kernel
set_option maxRecDepth 20000 in
theorem dk_166 : dkP 166 := by decide +kernel
set_option maxRecDepth 20000 in
theorem dk_167 : dkP 167 := by decide +kernel
set_option maxRecDepth 20000 in
theorem dk_168 : dkP 168 := by decide +kernel
set_option maxRecDepth 20000 in
theorem dk_169 : dkP 169 := by decide +kernel
set_option maxRecDepth 20000 in
theorem dk_170 : dkP 170 := by decide +kernel
set_option maxRecDepth 20000 in
theorem dk_171 : dkP 171 := by decide +kernel
set_option maxRecDepth 20000 in
theorem dk_172 : dkP 172 := by decide +kernel
set_option maxRecDepth 20000 in
theorem dk_173 : dkP 173 := by decide +kernel
set_option maxRecDepth 20000 in
theorem dk_174 : dkP 174 := by decide +kernel
set_option maxRecDepth 20000 in
theorem dk_175 : dkP 175 := by decide +kernel
set_option maxRecDepth 20000 in
theorem dk_176 : dkP 176 := by decide +kernel
set_option maxRecDepth 20000 in
theorem dk_177 : dkP 177 := by decide +kernel
set_option maxRecDepth 20000 in
theorem dk_178 : dkP 178 := by decide +kernel
set_option maxRecDepth 20000 in
theorem dk_179 : dkP 179 := by decide +kernel
set_option maxRecDepth 20000 in
theorem dk_180 : dkP 180 := by decide +kernel
set_option maxRecDepth 20000 in
theorem dk_181 : dkP 181 := by decide +kernel
set_option maxRecDepth 20000 in
theorem dk_182 : dkP 182 := by decide +kernel
set_option maxRecDepth 20000 in
theorem dk_183 : dkP 183 := by decide +kernel
set_option maxRecDepth 20000 in
theorem dk_184 : dkP 184 := by decide +kernel
set_option maxRecDepth 20000 in
theorem dk_185 : dkP 185 := by decide +kernel
set_option maxRecDepth 20000 in
theorem dk_186 : dkP 186 := by decide +kernel
set_option maxRecDepth 20000 in
theorem dk_187 : dkP 187 := by decide +kernel
set_option maxRecDepth 20000 in
theorem dk_188 : dkP 188 := by decide +kernel
set_option maxRecDepth 20000 in
theorem dk_189 : dkP 189 := by decide +kernel
theorem dkA_0 : ∀ a, a < 10 → dkP a := (lt_s (lt_s (lt_s (lt_s (lt_s (lt_s (lt_s (lt_s (lt_s (lt_s (lt_0 (p := dkP)) dk_0) dk_1) dk_2) dk_3) dk_4) dk_5) dk_6) dk_7) dk_8) dk_9)
theorem dkA_1 : ∀ a, a < 20 → dkP a := (lt_s (lt_s (lt_s (lt_s (lt_s (lt_s (lt_s (lt_s (lt_s (lt_s dkA_0 dk_10) dk_11) dk_12) dk_13) dk_14) dk_15) dk_16) dk_17) dk_18) dk_19)
theorem dkA_2 : ∀ a, a < 30 → dkP a := (lt_s (lt_s (lt_s (lt_s (lt_s (lt_s (lt_s (lt_s (lt_s (lt_s dkA_1 dk_20) dk_21) dk_22) dk_23) dk_24) dk_25) dk_26) dk_27) dk_28) dk_29)
theorem dkA_3 : ∀ a, a < 40 → dkP a := (lt_s (lt_s (lt_s (lt_s (lt_s (lt_s (lt_s (lt_s (lt_s (lt_s dkA_2 dk_30) dk_31) dk_32) dk_33) dk_34) dk_35) dk_36) dk_37) dk_38) dk_39)
theorem dkA_4 : ∀ a, a < 50 → dkP a := (lt_s (lt_s (lt_s (lt_s (lt_s (lt_s (lt_s (lt_s (lt_s (lt_s dkA_3 dk_40) dk_41) dk_42) dk_43) dk_44) dk_45) dk_46) dk_47) dk_48) dk_49)
theorem dkA_5 : ∀ a, a < 60 → dkP a := (lt_s (lt_s (lt_s (lt_s (lt_s (lt_s (lt_s (lt_s (lt_s (lt_s dkA_4 dk_50) dk_51) dk_52) dk_53) dk_54) dk_55) dk_56) dk_57) dk_58) dk_59)
theorem dkA_6 : ∀ a, a < 70 → dkP a := (lt_s (lt_s (lt_s (lt_s (lt_s (lt_s (lt_s (lt_s (lt_s (lt_s dkA_5 dk_60) dk_61) dk_62) dk_63) dk_64) dk_65) dk_66) dk_67) dk_68) dk_69)
theorem dkA_7 : ∀ a, a < 80 → dkP a := (lt_s (lt_s (lt_s (lt_s (lt_s (lt_s (lt_s (lt_s (lt_s (lt_s dkA_6 dk_70) dk_71) dk_72) dk_73) dk_74) dk_75) dk_76) dk_77) dk_78) dk_79)
theorem dkA_8 : ∀ a, a < 90 → dkP a := (lt_s (lt_s (lt_s (lt_s (lt_s (lt_s (lt_s (lt_s (lt_s (lt_s dkA_7 dk_80) dk_81) dk_82) dk_83) dk_84) dk_85) dk_86) dk_87) dk_88) dk_89)
theorem dkA_9 : ∀ a, a < 100 → dkP a := (lt_s (lt_s (lt_s (lt_s (lt_s (lt_s (lt_s (lt_s (lt_s (lt_s dkA_8 dk_90) dk_91) dk_92) dk_93) dk_94) dk_95) dk_96) dk_97) dk_98) dk_99)
theorem dkA_10 : ∀ a, a < 110 → dkP a := (lt_s (lt_s (lt_s (lt_s (lt_s (lt_s (lt_s (lt_s (lt_s (lt_s dkA_9 dk_100) dk_101) dk_102) dk_103) dk_104) dk_105) dk_106) dk_107) dk_108) dk_109)
theorem dkA_11 : ∀ a, a < 120 → dkP a := (lt_s (lt_s (lt_s (lt_s (lt_s (lt_s (lt_s (lt_s (lt_s (lt_s dkA_10 dk_110) dk_111) dk_112) dk_113) dk_114) dk_115) dk_116) dk_117) dk_118) dk_119)
theorem dkA_12 : ∀ a, a < 130 → dkP a := (lt_s (lt_s (lt_s (lt_s (lt_s (lt_s (lt_s (lt_s (lt_s (lt_s dkA_11 dk_120) dk_121) dk_122) dk_123) dk_124) dk_125) dk_126) dk_127) dk_128) dk_129)
theorem dkA_13 : ∀ a, a < 140 → dkP a := (lt_s (lt_s (lt_s (lt_s (lt_s (lt_s (lt_s (lt_s (lt_s (lt_s dkA_12 dk_130) dk_131) dk_132) dk_133) dk_134) dk_135) dk_136) dk_137) dk_138) dk_139)
theorem dkA_14 : ∀ a, a < 150 → dkP a := (lt_s (lt_s (lt_s (lt_s (lt_s (lt_s (lt_s (lt_s (lt_s (lt_s dkA_13 dk_140) dk_141) dk_142) dk_143) dk_144) dk_145) dk_146) dk_147) dk_148) dk_149)
theorem dkA_15 : ∀ a, a < 160 → dkP a := (lt_s (lt_s (lt_s (lt_s (lt_s (lt_s (lt_s (lt_s (lt_s (lt_s dkA_14 dk_150) dk_151) dk_152) dk_153) dk_154) dk_155) dk_156) dk_157) dk_158) dk_159)
theorem dkA_16 : ∀ a, a < 170 → dkP a := (lt_s (lt_s (lt_s (lt_s (lt_s (lt_s (lt_s (lt_s (lt_s (lt_s dkA_15 dk_160) dk_161) dk_162) dk_163) dk_164) dk_165) dk_166) dk_167) dk_168) dk_169)
theorem dkA_17 : ∀ a, a < 180 → dkP a := (lt_s (lt_s (lt_s (lt_s (lt_s (lt_s (lt_s (lt_s (lt_s (lt_s dkA_16 dk_170) dk_171) dk_172) dk_173) dk_174) dk_175) dk_176) dk_177) dk_178) dk_179)
theorem dkA_18 : ∀ a, a < 190 → dkP a := (lt_s (lt_s (lt_s (lt_s (lt_s (lt_s (lt_s (lt_s (lt_s (lt_s dkA_17 dk_180) dk_181) dk_182) dk_183) dk_184) dk_185) dk_186) dk_187) dk_188) dk_189)
theorem ckP_app {y : Nat} : ∀ (a b : List (Option RI)) (k : Nat), ckP y k a = true → ckP y (k + a.length) b = true → ckP y k (a ++ b) = true := by
  intro a
  induction a with
  | nil => intro b k _ h; simpa using h
  | cons o a ih =>
    intro b k h1 h2
    rw [ckP, Bool.and_eq_true] at h1
    rw [List.cons_append, ckP, Bool.and_eq_true]
    exact ⟨h1.1, ih b (k + 1) h1.2 (by rw [List.length_cons] at h2; rwa [show k + 1 + a.length = k + (a.length + 1) by omega])⟩
end
section
/-! THE LAW'S CODE -/
set_option maxRecDepth 20000 in
theorem dkL_0 : ckP 190 0 tb_190_0 = true := by decide +kernel
set_option maxRecDepth 20000 in
theorem dkL_1 : ckP 190 128 tb_190_1 = true := by decide +kernel
set_option maxRecDepth 20000 in
theorem dkL_2 : ckP 190 256 tb_190_2 = true := by decide +kernel
set_option maxRecDepth 20000 in
theorem dkL_3 : ckP 190 384 tb_190_3 = true := by decide +kernel
set_option maxRecDepth 20000 in
theorem dkL_4 : ckP 190 512 tb_190_4 = true := by decide +kernel
set_option maxRecDepth 20000 in
theorem dkL_5 : ckP 190 640 tb_190_5 = true := by decide +kernel
end
section
/-! THE LAW'S CODE, its second half -/
set_option maxRecDepth 20000 in
theorem dkL_6 : ckP 190 768 tb_190_6 = true := by decide +kernel
set_option maxRecDepth 20000 in
theorem dkL_7 : ckP 190 896 tb_190_7 = true := by decide +kernel
set_option maxRecDepth 20000 in
theorem dkL_8 : ckP 190 1024 tb_190_8 = true := by decide +kernel
set_option maxRecDepth 20000 in
theorem dkL_9 : ckP 190 1152 tb_190_9 = true := by decide +kernel
set_option maxRecDepth 20000 in
theorem dkL_10 : ckP 190 1280 tb_190_10 = true := by decide +kernel
set_option maxRecDepth 20000 in
theorem dkL_11 : ckP 190 1408 tb_190_11 = true := by decide +kernel
end
section
/-! ALL CODE -/
theorem ckP_app2 {y k n k2 : Nat} {a b : List (Option RI)} (hl : a.length = n) (hk : k + n = k2) (h1 : ckP y k a = true) (h2 : ckP y k2 b = true) : ckP y k (a ++ b) = true := by
  subst hl
  subst hk
  exact ckP_app a b k h1 h2
theorem ln_0 : tb_190_0.length = 128 := by decide +kernel
theorem ln_1 : tb_190_1.length = 128 := by decide +kernel
theorem ln_2 : tb_190_2.length = 128 := by decide +kernel
theorem ln_3 : tb_190_3.length = 128 := by decide +kernel
theorem ln_4 : tb_190_4.length = 128 := by decide +kernel
theorem ln_5 : tb_190_5.length = 128 := by decide +kernel
theorem ln_6 : tb_190_6.length = 128 := by decide +kernel
theorem ln_7 : tb_190_7.length = 128 := by decide +kernel
theorem ln_8 : tb_190_8.length = 128 := by decide +kernel
theorem ln_9 : tb_190_9.length = 128 := by decide +kernel
theorem ln_10 : tb_190_10.length = 128 := by decide +kernel
theorem dkR_11 : ckP 190 1408 tb_190_11 = true := dkL_11
theorem dkR_10 : ckP 190 1280 (tb_190_10 ++ (tb_190_11)) = true := ckP_app2 ln_10 rfl dkL_10 dkR_11
theorem dkR_9 : ckP 190 1152 (tb_190_9 ++ (tb_190_10 ++ (tb_190_11))) = true := ckP_app2 ln_9 rfl dkL_9 dkR_10
theorem dkR_8 : ckP 190 1024 (tb_190_8 ++ (tb_190_9 ++ (tb_190_10 ++ (tb_190_11)))) = true := ckP_app2 ln_8 rfl dkL_8 dkR_9
theorem dkR_7 : ckP 190 896 (tb_190_7 ++ (tb_190_8 ++ (tb_190_9 ++ (tb_190_10 ++ (tb_190_11))))) = true := ckP_app2 ln_7 rfl dkL_7 dkR_8
theorem dkR_6 : ckP 190 768 (tb_190_6 ++ (tb_190_7 ++ (tb_190_8 ++ (tb_190_9 ++ (tb_190_10 ++ (tb_190_11)))))) = true := ckP_app2 ln_6 rfl dkL_6 dkR_7
theorem dkR_5 : ckP 190 640 (tb_190_5 ++ (tb_190_6 ++ (tb_190_7 ++ (tb_190_8 ++ (tb_190_9 ++ (tb_190_10 ++ (tb_190_11))))))) = true := ckP_app2 ln_5 rfl dkL_5 dkR_6
theorem dkR_4 : ckP 190 512 (tb_190_4 ++ (tb_190_5 ++ (tb_190_6 ++ (tb_190_7 ++ (tb_190_8 ++ (tb_190_9 ++ (tb_190_10 ++ (tb_190_11)))))))) = true := ckP_app2 ln_4 rfl dkL_4 dkR_5
theorem dkR_3 : ckP 190 384 (tb_190_3 ++ (tb_190_4 ++ (tb_190_5 ++ (tb_190_6 ++ (tb_190_7 ++ (tb_190_8 ++ (tb_190_9 ++ (tb_190_10 ++ (tb_190_11))))))))) = true := ckP_app2 ln_3 rfl dkL_3 dkR_4
theorem dkR_2 : ckP 190 256 (tb_190_2 ++ (tb_190_3 ++ (tb_190_4 ++ (tb_190_5 ++ (tb_190_6 ++ (tb_190_7 ++ (tb_190_8 ++ (tb_190_9 ++ (tb_190_10 ++ (tb_190_11)))))))))) = true := ckP_app2 ln_2 rfl dkL_2 dkR_3
theorem dkR_1 : ckP 190 128 (tb_190_1 ++ (tb_190_2 ++ (tb_190_3 ++ (tb_190_4 ++ (tb_190_5 ++ (tb_190_6 ++ (tb_190_7 ++ (tb_190_8 ++ (tb_190_9 ++ (tb_190_10 ++ (tb_190_11))))))))))) = true := ckP_app2 ln_1 rfl dkL_1 dkR_2
theorem dkR_0 : ckP 190 0 (tb_190_0 ++ (tb_190_1 ++ (tb_190_2 ++ (tb_190_3 ++ (tb_190_4 ++ (tb_190_5 ++ (tb_190_6 ++ (tb_190_7 ++ (tb_190_8 ++ (tb_190_9 ++ (tb_190_10 ++ (tb_190_11)))))))))))) = true := ckP_app2 ln_0 rfl dkL_0 dkR_1
theorem dk_190 : dkP 190 := dkR_0
theorem dkA_19 : ∀ a, a < 191 → dkP a := (lt_s dkA_18 dk_190)
theorem allT_len : allT.length = 191 := by decide +kernel
theorem smI_ok {y pc : Nat} {r : RI} (h : smI y pc = some r) : decode (mCd y) pc = .ok (r.1, r.2.1 - pc) ∧ okR y pc r = true := by
  by_cases hy : y < 191
  · have h1 := ckP_e (allT.getD y []) 0 pc r (dkA_19 y hy) h
    simpa using h1
  · unfold smI at h
    rw [List.getD_eq_getElem?_getD (l := allT), List.getElem?_eq_none (by rw [allT_len]; exact Nat.not_lt.mp hy)] at h
    simp at h
end
section
/-! WHAT THE PICTURE SAYS OF THE HEAP -/
/-- the classes' numbers and slots, the array classes, the first address of what is made since, the addresses of what was there -/
abbrev AG : Type := va_G × (Nat → ClassId) × Nat × (Nat → Nat)
def plG (G : AG) (p : Nat) : Nat := if p < 32 then G.2.2.2 p else G.2.2.1 + (p - 32)
def cv (G : AG) (v : Value) : Value := match v with
  | .ref p => .ref (plG G p)
  | v => v
def rfo (G : AG) (v : Value) : Option Nat := match v with
  | .ref p => some (plG G p)
  | _ => none
def ce (G : AG) (c : AC) : va_E := match c with
  | .inl (k, l) => .inl (G.2.1 k, l.length, .inl (fun i => l.getD i 0))
  | .inr (c, fs) => if c = 50 then .inl (G.2.1 2, fs.length, .inr (.inr (.inr (.inr (fun i => rfo G (fs.getD i .null)))))) else .inr (c, fs.map (cv G))
def wsO (G : AG) (h : AH) : va_W := h.mapIdx (fun i c => (G.2.2.1 + i, ce G c))
theorem plG_hi (G : AG) {p : Nat} (h : 32 ≤ p) : plG G p = G.2.2.1 + (p - 32) := by
  unfold plG
  rw [if_neg (by omega)]
theorem plG_new (G : AG) (h : AH) : plG G (32 + h.length) = G.2.2.1 + h.length := by
  rw [plG_hi G (by omega)]
  congr 1
  omega
theorem cv_cat (G : AG) (v : Value) : (cv G v).category = v.category := by cases v <;> rfl
theorem cat_map (G : AG) (st : List Value) : ((st.map (cv G)).map fun v => v.category).sum = catS st := by
  unfold catS
  rw [List.map_map]
  congr 1
  exact List.map_congr_left (fun v _ => cv_cat G v)
theorem wsO_at (G : AG) (h : AH) (i : Nat) : (wsO G h)[i]? = h[i]?.map (fun c => (G.2.2.1 + i, ce G c)) := by simp [wsO]
theorem wsO_some {G : AG} {h : AH} {i : Nat} {c : AC} (q : h[i]? = some c) : (wsO G h)[i]? = some (G.2.2.1 + i, ce G c) := by rw [wsO_at, q]; rfl
theorem wsO_set {G : AG} {h : AH} {i : Nat} {c : AC} : (wsO G h).set i (G.2.2.1 + i, ce G c) = wsO G (h.set i c) := by
  apply List.ext_getElem?
  intro j
  rw [List.getElem?_set, wsO_at, wsO_at, List.getElem?_set]
  by_cases hj : i = j
  · subst hj
    simp [wsO]
  · simp [hj]
theorem wsO_push {G : AG} {h : AH} {c : AC} : wsO G h ++ [(G.2.2.1 + h.length, ce G c)] = wsO G (h ++ [c]) := by
  simp [wsO, List.mapIdx_append]
def AbA (G : AG) : Nat → Prop := fun q => G.2.2.1 ≤ q
theorem wsO_D (G : AG) (h : AH) : va_D (AbA G) (wsO G h) := by
  refine ⟨fun i j p q hp hq e => ?_, fun k q hq => ?_⟩
  · rw [wsO_at] at hp hq
    obtain ⟨c1, -, rfl⟩ := Option.map_eq_some_iff.mp hp
    obtain ⟨c2, -, rfl⟩ := Option.map_eq_some_iff.mp hq
    dsimp only at e
    omega
  · rw [wsO_at] at hq
    obtain ⟨c1, -, rfl⟩ := Option.map_eq_some_iff.mp hq
    exact Nat.le_add_right _ _
def tysO (G : AG) : List (ClassId × FieldType) := [(G.2.1 0, .int), (G.2.1 1, .boolean), (G.2.1 2, .object "LooksServed$Sheet")]
/-- the picture holds of a heap -/
def WdO (G : AG) (h : AH) (H : Heap) : Prop := H.size = G.2.2.1 + h.length ∧ va_P G.1 vwCl (wsO G h) H
/-- what was there before: script, statics, texts -/
def RO (G : AG) (xs : List Int32) (U : State) : Prop :=
  (∀ p k l, (roL xs)[p]? = some (.inl (k, l)) → va_T (if k = 3 then .byte else .int) (G.2.2.2 p) l.length (fun i => .int (l.getD i 0)) (AbA G) U U.heap) ∧
  (∀ p fs, (roL xs)[p]? = some (.inr (60, fs)) → va_O "java/lang/String" (G.2.2.2 p) (AbA G) U U.heap ∧ ∀ b, b < 2 → va_OF "java/lang/String" (sfN b) (sfD b) (cv G (fs.getD b .null)) (G.2.2.2 p) (AbA G) U U.heap) ∧
  (∀ k, k = 1 ∨ k = 2 ∨ k = 99 → va_Z (gsC k) (gsN k) (gsD k) (cv G (if k = 99 then .int 1 else .ref k)) (AbA G) U U.heap) ∧
  (∀ q ∈ SRl, ∃ tx, vk_R (clsN q.1) q.2.1 tx (plG G q.2.2) U) ∧
  (∀ q ∈ NLl, va_Nw (.methodLinkNest (clsN q.1) q.2.1 (mNm q.2.2.1) "LooksServed") U) ∧
  va_AO "LooksServed$Sheet" U ∧
  va_Nw (.castable "[I" "java/lang/Cloneable") U
def Am (G : AG) (xs : List Int32) (U : State) : Prop := va_K G.1 vwCl (tysO G) U ∧ RO G xs U
theorem Am.warm {G : AG} {xs : List Int32} {s U : State} (h : Am G xs s) (hW : s.WarmedH U.vm) (hk : ∀ a : Nat, a < s.heap.size → ¬ AbA G a → U.heap[a]? = s.heap[a]?) : Am G xs U := by
  obtain ⟨hK, h1, h2, h3, h4, h5, h6, h7⟩ := h
  refine ⟨va_K.moved hW.alike hK, fun p k l q => ((h1 p k l q).kept hk).moved hW.alike, fun p fs q => ⟨((h2 p fs q).1.kept hk).moved hW.alike, fun b hb => (((h2 p fs q).2 b hb).kept hk).moved hW.alike⟩, fun k q => ((h3 k q).kept hk).moved hW.alike, fun q hq => ?_, fun q hq => (h5 q hq).warmM hW, h6.moved hW.alike, h7.warmC hW⟩
  obtain ⟨tx, h⟩ := h4 q hq
  exact ⟨tx, h.warm hW⟩
theorem Am.same {G : AG} {xs : List Int32} {s U : State} (h : Am G xs s) (hv : U.vm = s.vm) (hh : U.heap = s.heap) : Am G xs U := by
  obtain ⟨hK, h1, h2, h3, h4, h5, h6, h7⟩ := h
  have ha : s.vm.Alike U.vm := by rw [hv]; exact Vm.Alike.refl _
  refine ⟨va_K.moved ha hK, fun p k l q => by rw [hh]; exact (h1 p k l q).moved ha, fun p fs q => ⟨by rw [hh]; exact (h2 p fs q).1.moved ha, fun b hb => by rw [hh]; exact ((h2 p fs q).2 b hb).moved ha⟩, fun k q => by rw [hh]; exact (h3 k q).moved ha, fun q hq => ?_, fun q hq => (h5 q hq).same rfl hv.symm, h6.moved ha, h7.same rfl hv.symm⟩
  obtain ⟨tx, h⟩ := h4 q hq
  exact ⟨tx, h.same hv⟩
-- the locals
def lvO (G : AG) (ls : Array Slot) (n : Nat) (L : LoS) : Prop := L.length = n ∧ ls.size = n ∧ lv_wf ls ∧ ∀ i v, L.getD i none = some v → ls[i]? = some (.val (cv G v))
def prO (G : AG) (L : LoS) : List (Nat × Value) := (List.range L.length).filterMap (fun i => (L.getD i none).map (fun v => (i, cv G v)))
theorem prO_mem {G : AG} {L : LoS} {i : Nat} {v : Value} (h : L.getD i none = some v) : (i, cv G v) ∈ prO G L := by
  unfold prO
  refine List.mem_filterMap.mpr ⟨i, List.mem_range.mpr ?_, by rw [h]; rfl⟩
  refine Nat.lt_of_not_le (fun q => ?_)
  rw [List.getD_eq_getElem?_getD, List.getElem?_eq_none q] at h
  cases h
theorem lvO_has {G : AG} {ls : Array Slot} {n : Nat} {L : LoS} (h : lvO G ls n L) : lv_has ls n (prO G L) := by
  refine ⟨h.2.1, h.2.2.1, fun q hq => ?_⟩
  obtain ⟨i, -, hi⟩ := List.mem_filterMap.mp hq
  obtain ⟨v, h1, rfl⟩ := Option.map_eq_some_iff.mp hi
  exact h.2.2.2 i v h1
theorem lvO_set {G : AG} {ls ls' : Array Slot} {n : Nat} {L : LoS} {i : Nat} {v : Value} (h : lvO G ls n L) (hk : okS L i = true) (h' : lv_has ls' n ((i, cv G v) :: (prO G L).filter (fun q => !(q.1 == i) && !(q.1 + 1 == i && q.2.category == 2)))) : lvO G ls' n (L.set i (some v)) := by
  unfold okS at hk
  rw [Bool.and_eq_true, decide_eq_true_eq] at hk
  refine ⟨by rw [List.length_set]; exact h.1, h'.1, h'.2.1, fun j w hj => ?_⟩
  by_cases hij : i = j
  · subst hij
    rw [List.getD_eq_getElem?_getD, List.getElem?_set_self hk.1] at hj
    cases hj
    exact h'.2.2 (i, cv G v) List.mem_cons_self
  · rw [List.getD_eq_getElem?_getD, List.getElem?_set_ne hij, ← List.getD_eq_getElem?_getD] at hj
    refine h'.2.2 (j, cv G w) (List.mem_cons_of_mem _ (List.mem_filter.mpr ⟨prO_mem hj, ?_⟩))
    have h1 : (j == i) = false := beq_false_of_ne (fun q => hij q.symm)
    rw [Bool.and_eq_true]
    refine ⟨by simp [h1], ?_⟩
    by_cases h2 : j + 1 = i
    · subst h2
      have h3 := hk.2
      dsimp only at h3
      rw [hj] at h3
      have h4 : (cv G w).category ≠ 2 := by
        rw [cv_cat]
        intro h5
        cases w <;> simp [isW, Value.category] at h3 h5
      simp [h4]
    · simp [h2]
theorem lvO_lt {L : LoS} {i : Nat} (hk : okS L i = true) : i < L.length := by
  unfold okS at hk
  rw [Bool.and_eq_true, decide_eq_true_eq] at hk
  exact hk.1
theorem slV_len (G : AG) (vs : List Value) : (lg_sl (vs.map (cv G))).length = (slV vs).length := by
  induction vs with
  | nil => rfl
  | cons v vs ih =>
    have e1 : lg_sl ((v :: vs).map (cv G)) = (if (cv G v).category = 2 then [Slot.val (cv G v), .second] else [.val (cv G v)]) ++ lg_sl (vs.map (cv G)) := rfl
    have e2 : slV (v :: vs) = (if v.category = 2 then [some v, none] else [some v]) ++ slV vs := rfl
    rw [e1, e2, List.length_append, List.length_append, ih, cv_cat]
    split <;> rfl
theorem slV_args (G : AG) (vs : List Value) : ∀ (k i : Nat) (v : Value), (slV vs).getD i none = some v → (k + i, cv G v) ∈ lv_args k (vs.map (cv G)) := by
  induction vs with
  | nil => intro k i v h; simp [slV] at h
  | cons w vs ih =>
    intro k i v h
    have e1 : lv_args k ((w :: vs).map (cv G)) = (k, cv G w) :: lv_args (if (cv G w).category = 2 then k + 2 else k + 1) (vs.map (cv G)) := rfl
    have e2 : slV (w :: vs) = (if w.category = 2 then [some w, none] else [some w]) ++ slV vs := rfl
    rw [e1, cv_cat]
    rw [e2] at h
    by_cases hc : w.category = 2
    · rw [if_pos hc] at h ⊢
      match i, h with
      | 0, h =>
        have : w = v := by simpa using h
        subst this
        exact List.mem_cons_self
      | 1, h => simp at h
      | i + 2, h =>
        have h2 : (slV vs).getD i none = some v := by simpa using h
        have h3 := ih (k + 2) i v h2
        rw [show k + 2 + i = k + (i + 2) by omega] at h3
        exact List.mem_cons_of_mem _ h3
    · rw [if_neg hc] at h ⊢
      match i, h with
      | 0, h =>
        have : w = v := by simpa using h
        subst this
        exact List.mem_cons_self
      | i + 1, h =>
        have h2 : (slV vs).getD i none = some v := by simpa using h
        have h3 := ih (k + 1) i v h2
        rw [show k + 1 + i = k + (i + 1) by omega] at h3
        exact List.mem_cons_of_mem _ h3
theorem lvO_entry (G : AG) {vs : List Value} {n : Nat} (h : (slV vs).length ≤ n) : lvO G ((lg_sl (vs.map (cv G)) ++ List.replicate (n - (lg_sl (vs.map (cv G))).length) Slot.unset).toArray) n (entL n vs) := by
  have h1 := lv_entry (vs.map (cv G)) (n := n) (by rw [slV_len]; exact h)
  refine ⟨?_, h1.1, h1.2.1, fun i v hi => ?_⟩
  · unfold entL
    rw [List.length_append, List.length_replicate]
    omega
  · have h2 : (slV vs).getD i none = some v := by
      unfold entL at hi
      rw [List.getD_eq_getElem?_getD] at hi ⊢
      by_cases hl : i < (slV vs).length
      · rwa [List.getElem?_append_left hl] at hi
      · rw [List.getElem?_append_right (by omega), List.getElem?_replicate] at hi
        split at hi <;> cases hi
    have h3 := slV_args G vs 0 i v h2
    rw [Nat.zero_add] at h3
    exact h1.2.2 (i, cv G v) h3
end
section
/-! ROWS THAT WRITE OR MAKE A CELL, over the picture: with the heap's size -/
theorem WdO_set {G : AG} {h : AH} {H H1 : Heap} {i : Nat} {c c' : AC} (hW : WdO G h H) (hc : h[i]? = some c) (he : va_at G.1 vwCl (G.2.2.1 + i, ce G c') H1) (z : H1.size = H.size) (oq : ∀ q, q ≠ G.2.2.1 + i → H1[q]? = H[q]?) : WdO G (h.set i c') H1 :=
  ⟨by rw [z, hW.1, List.length_set], by rw [← wsO_set]; exact hW.2.set (wsO_D G h) (wsO_some hc) he oq⟩
theorem WdO_push {G : AG} {h : AH} {H H1 : Heap} {c : AC} (hW : WdO G h H) (he : va_at G.1 vwCl (G.2.2.1 + h.length, ce G c) H1) (z : H1.size = H.size + 1) (oq : ∀ q, q < H.size → H1[q]? = H[q]?) : WdO G (h ++ [c]) H1 := by
  refine ⟨by rw [z, hW.1, List.length_append]; rfl, ?_⟩
  rw [← wsO_push]
  refine va_P.app (hW.2.kept (fun k x hx => oq x.1 ((hW.2 k x hx).lt))) (fun k x hx => ?_)
  have hz : k < 1 := (List.getElem?_eq_some_iff.mp hx).1
  rw [show k = 0 by omega] at hx
  cases hx
  exact he
theorem sm_grow {G : AG} {s : State} {H H1 : Heap} {locs : List Loc} (hS : va_S (AbA G) s.heap H locs) (z : H1.size = H.size + 1) (oq : ∀ q, q < H.size → H1[q]? = H[q]?) : va_S (AbA G) s.heap H1 locs :=
  ⟨Nat.le_trans hS.1 (by omega), fun x h1 h2 => (oq x (Nat.lt_of_lt_of_le h1 hS.1)).trans (hS.2.1 x h1 h2), hS.2.2⟩
theorem gD_set {l : List Int32} {k : Nat} {x : Int32} (hk : k < l.length) (j : Nat) : (l.set k x).getD j 0 = if j = k then x else l.getD j 0 := by
  rw [List.getD_eq_getElem?_getD, List.getD_eq_getElem?_getD, List.getElem?_set]
  by_cases h : k = j
  · subst h
    simp [hk]
  · rw [if_neg h, if_neg (fun q => h q.symm)]
theorem ce_set (G : AG) {H1 : Heap} {a k n : Nat} {l : List Int32} {x : Int32} (hn : n < l.length) (e : H1[a]? = some ((vp_cell (G.2.1 k) (l.length, .inl (fun i => l.getD i 0))).setSlot n (.int x))) : va_at G.1 vwCl (a, ce G (.inl (k, l.set n x))) H1 := by
  show H1[a]? = some (vp_cell _ _)
  rw [e]
  dsimp only
  rw [List.length_set, vp_cell_i, vp_cell_i, arrV_store]
  congr 2
  funext q
  rw [gD_set hn]
  by_cases hq : q = n
  · subst hq
    simp [updV]
  · simp [updV, hq]
section ROWS
variable {p : Program} {l : Launch} {e : Env} {R : Room} {s : State} {m : MethodId} {args : Array Value} {below : List Frame} {meth : Method} {c : Code} {H : Heap} {locs : List Loc} {cells slots : Nat} {Q : State → Prop}
variable {cc : ByteArray} {pc : Nat} {ls : Array Slot} {rest : List Value} {G : AG} {h : AH}
theorem inl_lt {i : Int32} {n : Nat} (h : vp_in i n) : i.toNatClampNeg < n := Nat.not_le.mp fun q => h (Or.inr q)
theorem sm_iast (hx : p.tables.exec = Jvm.exec) (hb : c.code = cc) (hK : va_K G.1 vwCl (tysO G) s) (hW : WdO G h H) (hS : va_S (AbA G) s.heap H locs) {i x : Int32} {k : Nat} {f : List Int32} (hc : h[k]? = some (.inl (0, f))) (hin : vp_in i f.length) (hdg : decode cc pc = .ok (.iastore, 1))
    (kk : ∀ (H1 : Heap) (locs1 : List Loc), WdO G (h.set k (.inl (0, f.set i.toNatClampNeg x))) H1 → va_S (AbA G) s.heap H1 locs1 → W p l e R s m args below meth c H1 locs1 cells slots Q (F0 m (pc + 1) ls rest)) : W p l e R s m args below meth c H locs cells slots Q (F0 m pc ls (.int x :: .int i :: .ref (G.2.2.1 + k) :: rest)) := by
  have ha := wsO_some (G := G) hc
  refine W.iast hx hb (hW.2 k _ ha) ((hK.2 0 _ rfl).1 f.length (fun j => .int (f.getD j 0))) (fun q => by cases q) (by show ¬ (i < 0 ∨ (arrV _ _ _).slots.size ≤ _); rw [arrV_size]; exact hin) rfl rfl hdg fun H1 e z oq => ?_
  exact kk H1 _ (WdO_set hW hc (ce_set G (inl_lt hin) e) z oq) (hS.put z oq (Nat.le_add_right _ _))
theorem nar_b {x : Int32} (h : x = 0 ∨ x = 1) : narrow .boolean (.int x) = .int x := by
  rcases h with h | h <;> subst h <;> decide
theorem sm_zast (hx : p.tables.exec = Jvm.exec) (hb : c.code = cc) (hK : va_K G.1 vwCl (tysO G) s) (hW : WdO G h H) (hS : va_S (AbA G) s.heap H locs) {i x : Int32} {k : Nat} {f : List Int32} (hxx : x = 0 ∨ x = 1) (hc : h[k]? = some (.inl (1, f))) (hin : vp_in i f.length) (hdg : decode cc pc = .ok (.bastore, 1))
    (kk : ∀ (H1 : Heap) (locs1 : List Loc), WdO G (h.set k (.inl (1, f.set i.toNatClampNeg x))) H1 → va_S (AbA G) s.heap H1 locs1 → W p l e R s m args below meth c H1 locs1 cells slots Q (F0 m (pc + 1) ls rest)) : W p l e R s m args below meth c H locs cells slots Q (F0 m pc ls (.int x :: .int i :: .ref (G.2.2.1 + k) :: rest)) := by
  have ha := wsO_some (G := G) hc
  refine W.zast hx hb (hW.2 k _ ha) ((hK.2 1 _ rfl).1 f.length (fun j => .int (f.getD j 0))) (fun q => by cases q) (by show ¬ (i < 0 ∨ (arrV _ _ _).slots.size ≤ _); rw [arrV_size]; exact hin) rfl rfl hdg fun H1 e z oq => ?_
  rw [nar_b hxx] at e
  exact kk H1 _ (WdO_set hW hc (ce_set G (inl_lt hin) e) z oq) (hS.put z oq (Nat.le_add_right _ _))
theorem ce_obj (G : AG) {c : Nat} (fs : List Value) (hc : c ≠ 50) : ce G (.inr (c, fs)) = .inr (c, fs.map (cv G)) := by
  unfold ce
  dsimp only
  rw [if_neg hc]
theorem sm_put {y : Nat} (hx : p.tables.exec = Jvm.exec) (hb : c.code = cc) (hts : ∀ w ∈ tblG, w.before args s = true) (hown : s.vm.findClass (clsN (mCn y)) = some m.cls) (hK : va_K G.1 vwCl (tysO G) s) (hW : WdO G h H) (hS : va_S (AbA G) s.heap H locs) (hin2 : mFl y = 2 → meth.name = "<init>") {k a b index : Nat} {fs : List Value} {v : Value} (ha8 : a < 8) (hbn : b < nfT a) (hc : h[k]? = some (.inr (a, fs))) (hlen : b < fs.length)
    (hlink : wFL (mCn y, index, a, b) ∈ tblG) (hfin : (TT a b).2.2.2 = true → mFl y = 2 ∧ (TT a b).1 = clsN (mCn y)) (hn : narrow (tyT a b) (cv G v) = cv G v) (hfit : fits (tyT a b) (cv G v) = true) (hdg : decode cc pc = .ok (.putfield index, 3))
    (kk : ∀ (H1 : Heap) (locs1 : List Loc), WdO G (h.set k (.inr (a, fs.set b v))) H1 → va_S (AbA G) s.heap H1 locs1 → W p l e R s m args below meth c H1 locs1 cells slots Q (F0 m (pc + 3) ls rest)) : W p l e R s m args below meth c H locs cells slots Q (F0 m pc ls (cv G v :: .ref (G.2.2.1 + k) :: rest)) := by
  have hts' := hts
  have hin := ws_in ha8
  have hty := ty_ok ha8
  have hap := va_apart (own := clsN (mCn y)) hts hin (tyT a) hty (nm_ok ha8) hK (vw_at ha8)
  have ha := wsO_some (G := G) hc
  rw [ce_obj G fs (by omega)] at ha
  obtain ⟨r, h1, cell, q1, q2, q3, q4⟩ := hW.2 k _ ha
  have hr : r = (clsN a, TT a, nfT a) := Option.some.inj (h1.symm.trans (vw_at ha8))
  subst hr
  obtain ⟨hSl, hfc, kC, hkC, hkind⟩ := hK.1 a _ (vw_at ha8)
  obtain ⟨cf, kf, fi, f, hi, hsl⟩ := hSl b hbn
  have hst := (u_facts hfc hkC (u_lays hts hin hbn) hi).1
  have hlay := hts _ (hin _ (u_in_lay hbn))
  unfold u_lay at hlay
  have hlk := hts _ hlink
  have fin : ∀ H' : Heap, H'[G.2.2.1 + k]? = some (cell.setSlot f.slot (cv G v)) → H'.size = H.size → (∀ q, q ≠ G.2.2.1 + k → H'[q]? = H[q]?) → WdO G (h.set k (.inr (a, fs.set b v))) H' ∧ va_S (AbA G) s.heap H' (locs ++ [⟨G.2.2.1 + k, f.slot⟩]) := by
    intro H' e1 e2 e3
    refine ⟨WdO_set hW hc ?_ e2 e3, hS.put e2 e3 (Nat.le_add_right _ _)⟩
    rw [hsl] at e1
    rw [ce_obj G _ (by omega), List.map_set]
    exact ⟨_, vw_at ha8, t_OB.to (V := updV (vp_V (fs.map (cv G))) b (cv G v)) ⟨_, e1, q2, q3, t_set q4 hap hbn (cv G v)⟩ (fun j _ => vp_updV_set (by rw [List.length_map]; exact hlen) (cv G v) j)⟩
  by_cases hf : (TT a b).2.2.2 = true
  · rw [if_pos hf] at hlay
    obtain ⟨g1, g2⟩ := hfin hf
    have hcf : m.cls = cf := by
      obtain ⟨_, _, c', _, _, _, -, -, hf', -, -, -, hown2, -⟩ := Cond.laysFinal_spec hlay
      have e1 : c' = cf := by have := hi.symm.trans hf'; simp at this; exact this.1.symm
      rw [g2] at hown2
      rw [← e1]; exact Option.some.inj (hown.symm.trans hown2)
    have h6 := u_fits hfc hkC hkind (Or.inr hlay) hi (hty b hbn) hn hfit
    refine W.putFinK hx hb hown hlk hi hst hcf (hin2 g1) (by rw [q2]; exact h6) q1 q3 (by rw [hsl]; exact k2_hasslot (q4 b hbn)) rfl rfl hdg fun H' e1 e2 e3 => ?_
    obtain ⟨w1, w2⟩ := fin H' e1 e2 e3
    exact kk H' _ w1 w2
  · rw [if_neg hf] at hlay
    have h6 := u_store hfc hkC hkind hlay hi (hty b hbn) hn hfit
    refine W.putK hx hb (f := f) ⟨hown, hlk, ⟨_, _, _, hi⟩, hst⟩ (by rw [q2]; exact h6) q1 q3 (by rw [hsl]; exact k2_hasslot (q4 b hbn)) rfl rfl hdg fun H' e1 e2 e3 => ?_
    obtain ⟨w1, w2⟩ := fin H' e1 e2 e3
    exact kk H' _ w1 w2
theorem ce_arr (G : AG) (fs : List Value) : ce G (.inr (50, fs)) = .inl (G.2.1 2, fs.length, .inr (.inr (.inr (.inr (fun i => rfo G (fs.getD i .null)))))) := rfl
theorem sm_astq (hx : p.tables.exec = Jvm.exec) (hb : c.code = cc) (hK : va_K G.1 vwCl (tysO G) s) (hW : WdO G h H) (hS : va_S (AbA G) s.heap H locs) {i : Int32} {k q : Nat} {fs gs : List Value} (hq32 : 32 ≤ q) (hc : h[k]? = some (.inr (50, fs))) (hcq : h[q - 32]? = some (.inr (3, gs))) (hin : vp_in i fs.length) (hdg : decode cc pc = .ok (.aastore, 1))
    (kk : ∀ (H1 : Heap) (locs1 : List Loc), WdO G (h.set k (.inr (50, fs.set i.toNatClampNeg (.ref q)))) H1 → va_S (AbA G) s.heap H1 locs1 → W p l e R s m args below meth c H1 locs1 cells slots Q (F0 m (pc + 1) ls rest)) : W p l e R s m args below meth c H locs cells slots Q (F0 m pc ls (.ref (plG G q) :: .int i :: .ref (G.2.2.1 + k) :: rest)) := by
  have hlt := inl_lt hin
  have h0 : ¬ i < 0 := fun q => hin (Or.inl q)
  have ha := wsO_some (G := G) hc
  rw [ce_arr] at ha
  have hv := wsO_some (G := G) hcq
  rw [ce_obj G gs (by decide)] at hv
  rw [plG_hi G hq32]
  obtain ⟨r', hr', cellV, g1, g2, g3, -⟩ := hW.2 _ _ hv
  have hcls := (hK.1 3 _ (vw_at (by decide))).2
  obtain ⟨kA, comp, k1, k2, k3, -⟩ := (hK.2 2 _ rfl).2
  have hcomp : comp = G.1.1 3 := Option.some.inj (k3.symm.trans hcls.1)
  subst hcomp
  obtain ⟨kC, hkC, -⟩ := hcls.2
  refine W.aast hx hb (hW.2 k _ ha) (fun q h => by cases h) (fun h => by cases h) k1 k2 rfl hkC ⟨h0, by show _ < (arrV _ _ _).slots.size; rw [arrV_size]; exact hlt⟩ g1 (fun q h => by rw [g3] at h; cases h) (by rw [g2]; exact hkC) (by rw [g2]; exact va_assign hcls) rfl rfl hdg fun H1 e z oq => ?_
  refine kk H1 _ (WdO_set hW hc ?_ z oq) (hS.put z oq (Nat.le_add_right _ _))
  rw [ce_arr]
  show H1[G.2.2.1 + k]? = some (vp_cell _ _)
  rw [e, List.length_set]
  rw [vp_cell_q, vp_cell_q, arrV_store]
  congr 2
  funext j
  by_cases hq : j = i.toNatClampNeg
  · subst hq
    simp [updV, List.getElem?_set, hlt, rfo, va_rf, plG_hi G hq32]
  · simp [updV, hq, List.getElem?_set, Ne.symm hq]
theorem sm_newa (hx : p.tables.exec = Jvm.exec) (hb : c.code = cc) (hts : ∀ w ∈ tblG, w.before args s = true) (hK : va_K G.1 vwCl (tysO G) s) (hW : WdO G h H) (hS : va_S (AbA G) s.heap H locs) {t : ArrayType} {k : Nat} (ht : (t = .int ∧ k = 0) ∨ (t = .boolean ∧ k = 1)) {n : Int32} (hn : ¬ n < 0) (hN : n.toNatClampNeg ≤ 100000) (hcells : cells + 1 ≤ R.cells) (hslots : slots + n.toNatClampNeg ≤ R.slots) (hdg : decode cc pc = .ok (.newarray t, 2))
    (kk : ∀ (H1 : Heap), WdO G (h ++ [.inl (k, List.replicate n.toNatClampNeg 0)]) H1 → va_S (AbA G) s.heap H1 locs → W p l e R s m args below meth c H1 locs (cells + 1) (slots + n.toNatClampNeg) Q (F0 m (pc + 2) ls (.ref (G.2.2.1 + h.length) :: rest))) : W p l e R s m args below meth c H locs cells slots Q (F0 m pc ls (.int n :: rest)) := by
  rw [← hW.1] at kk
  have hr : ∀ j, (List.replicate n.toNatClampNeg (0 : Int32)).getD j 0 = 0 := fun j => by
    rw [List.getD_eq_getElem?_getD, List.getElem?_replicate]
    split <;> rfl
  rcases ht with ⟨rfl, rfl⟩ | ⟨rfl, rfl⟩
  · refine va_newaK hx hb (atype := .int) (hts _ tw_int) rfl hdg rfl hn rfl (by show n.toNatClampNeg * 4 ≤ 536870912; omega) hcells hslots rfl fun H1 cA e1 z1 o1 hAr hNm => ?_
    refine kk H1 (WdO_push hW ?_ z1 o1) (sm_grow hS z1 o1)
    have hcA : cA = G.2.1 0 := by
      have h2 : s.vm.findClass ("[" ++ FieldType.int.toString) = some (G.2.1 0) := (hK.2 0 _ rfl).2
      exact Option.some.inj (hNm.symm.trans h2)
    subst hcA
    show H1[G.2.2.1 + h.length]? = some (vp_cell _ _)
    rw [← hW.1, e1, vp_cell_i, List.length_replicate]
    congr 2
    funext j
    rw [hr]
    rfl
  · refine va_newaK hx hb (atype := .boolean) (hts _ tw_bool) rfl hdg rfl hn rfl (by show n.toNatClampNeg * 1 ≤ 536870912; omega) hcells hslots rfl fun H1 cA e1 z1 o1 hAr hNm => ?_
    refine kk H1 (WdO_push hW ?_ z1 o1) (sm_grow hS z1 o1)
    have hcA : cA = G.2.1 1 := by
      have h2 : s.vm.findClass ("[" ++ FieldType.boolean.toString) = some (G.2.1 1) := (hK.2 1 _ rfl).2
      exact Option.some.inj (hNm.symm.trans h2)
    subst hcA
    show H1[G.2.2.1 + h.length]? = some (vp_cell _ _)
    rw [← hW.1, e1, vp_cell_i, List.length_replicate]
    congr 2
    funext j
    rw [hr]
    rfl
theorem sm_newq (hx : p.tables.exec = Jvm.exec) (hb : c.code = cc) {own : String} {index : Nat} (hown : s.vm.findClass own = some m.cls) (hlink : (Cond.classLink own index "LooksServed$Sheet").before args s = true) (hover : va_AO "LooksServed$Sheet" s) (hK : va_K G.1 vwCl (tysO G) s) (hW : WdO G h H) (hS : va_S (AbA G) s.heap H locs) {n : Int32} (hn : ¬ n < 0) (hN : n.toNatClampNeg ≤ 100000) (hcells : cells + 1 ≤ R.cells) (hslots : slots + n.toNatClampNeg ≤ R.slots) (hdg : decode cc pc = .ok (.anewarray index, 3))
    (kk : ∀ (H1 : Heap), WdO G (h ++ [.inr (50, List.replicate n.toNatClampNeg .null)]) H1 → va_S (AbA G) s.heap H1 locs → W p l e R s m args below meth c H1 locs (cells + 1) (slots + n.toNatClampNeg) Q (F0 m (pc + 3) ls (.ref (G.2.2.1 + h.length) :: rest))) : W p l e R s m args below meth c H locs cells slots Q (F0 m pc ls (.int n :: rest)) := by
  rw [← hW.1] at kk
  refine W.anew hx hb hown hlink (va_AO.use hover) rfl hdg rfl hn (by omega) hcells hslots fun cA kA comp f1 f2 f3 f4 => ?_
  generalize hH1 : H.push ({ cls := cA, slots := Array.replicate n.toNatClampNeg .null, vm := .none } : Cell) = H1
  have z1 : H1.size = H.size + 1 := by rw [← hH1, Array.size_push]
  have e1 : H1[H.size]? = some (arrV cA n.toNatClampNeg (fun _ => .null)) := by rw [← hH1, Array.getElem?_push_size, ← arrV_new]
  have o1 : ∀ q : Nat, q < H.size → H1[q]? = H[q]? := fun q hq => by rw [← hH1, Array.getElem?_push, if_neg (Nat.ne_of_lt hq)]
  refine kk H1 (WdO_push hW ?_ z1 o1) (sm_grow hS z1 o1)
  obtain ⟨kA', comp', k1, k2, k3, k4⟩ := (hK.2 2 _ rfl).2
  have hcA : cA = G.2.1 2 := Option.some.inj (f1.symm.trans k4)
  subst hcA
  rw [ce_arr]
  show H1[G.2.2.1 + h.length]? = some (vp_cell _ _)
  rw [← hW.1, e1, vp_cell_q, List.length_replicate]
  congr 2
  funext j
  rw [List.getD_eq_getElem?_getD, List.getElem?_replicate]
  split <;> rfl
theorem cv_df (G : AG) (t : FieldType) : cv G (defaultValue t) = defaultValue t := by cases t <;> rfl
theorem sm_new (hx : p.tables.exec = Jvm.exec) (hb : c.code = cc) (hts : ∀ w ∈ tblG, w.before args s = true) {own : String} {index a : Nat} (ha8 : a < 8) (hown : s.vm.findClass own = some m.cls) (hcl : (Cond.classLink own index (clsN a)).before args s = true) (hinst : (Cond.instantiable (clsN a) (nfT a)).before args s = true) (hini : (Cond.initialized (clsN a)).before args s = true) (hK : va_K G.1 vwCl (tysO G) s) (hW : WdO G h H) (hS : va_S (AbA G) s.heap H locs) (hcells : cells + 1 ≤ R.cells) (hslots : slots + nfT a ≤ R.slots) (hdg : decode cc pc = .ok (.new index, 3))
    (kk : ∀ (H1 : Heap), WdO G (h ++ [.inr (a, dfV a (nfT a))]) H1 → va_S (AbA G) s.heap H1 locs → W p l e R s m args below meth c H1 locs (cells + 1) (slots + nfT a) Q (F0 m (pc + 3) ls (.ref (G.2.2.1 + h.length) :: rest))) : W p l e R s m args below meth c H locs cells slots Q (F0 m pc ls rest) := by
  rw [← hW.1] at kk
  have hKn := hK.1 a _ (vw_at ha8)
  refine W.newcK hx hb hown hcl hinst hini rfl hdg hcells hslots hKn.2.1 rfl fun H1 kC hkC e1 z1 o1 => ?_
  refine kk H1 (WdO_push hW ?_ z1 o1) (sm_grow hS z1 o1)
  rw [ce_obj G _ (by omega), ← hW.1]
  refine ⟨_, vw_at ha8, (u_born (tyT a) hts (ws_in ha8) hKn hkC e1 (ty_ok ha8)).to (fun j hj => ?_)⟩
  have hj' : j < nfT a := hj
  unfold vp_V dfV
  rw [List.getD_eq_getElem?_getD, List.getElem?_map, List.getElem?_map, List.getElem?_range hj']
  exact (cv_df G _).symm
end ROWS
end
section
/-! ROWS OF TWO NATIVE METHODS OVER THE PICTURE: arraycopy of numbers, clone of an int[] -/
theorem cpL_len (f g : List Int32) (sp dp n : Nat) : (cpL f g sp dp n).length = g.length := by
  unfold cpL
  rw [List.length_map, List.length_range]
theorem cpL_at (f g : List Int32) (sp dp n : Nat) (hl : dp + n ≤ g.length) (j : Nat) : (cpL f g sp dp n).getD j 0 = va_cpy (fun i => f.getD i 0) (fun i => g.getD i 0) sp dp n j := by
  unfold cpL
  rw [List.getD_eq_getElem?_getD, List.getElem?_map]
  by_cases hj : j < g.length
  · rw [List.getElem?_range hj]
    rfl
  · rw [List.getElem?_eq_none (by rw [List.length_range]; omega)]
    unfold va_cpy
    rw [if_neg (by omega)]
    show (0 : Int32) = g.getD j 0
    rw [List.getD_eq_getElem?_getD, List.getElem?_eq_none (by omega)]
    rfl
section ROWS2
variable {p : Program} {l : Launch} {e : Env} {R : Room} {s : State} {m : MethodId} {args : Array Value} {below : List Frame} {meth : Method} {c : Code} {H : Heap} {locs : List Loc} {cells slots : Nat} {Q : State → Prop}
variable {cc : ByteArray} {pc : Nat} {ls : Array Slot} {rest : List Value} {G : AG} {h : AH}
theorem sm_copy (hx : p.tables.exec = Jvm.exec) (hb : c.code = cc) (hml : c.maxLocals = ls.size) {own : String} {index : Nat} (hown : s.vm.findClass own = some m.cls) (hlink : (Cond.methodLink own index arraycopyName).before args s = true) (hnat : (Cond.native arraycopyName).before args s = true) (hstat : (Cond.static arraycopyName).before args s = true) (hini : (Cond.initialized "java/lang/System").before args s = true)
    (hK : va_K G.1 vwCl (tysO G) s) (hW : WdO G h H) (hS : va_S (AbA G) s.heap H locs) {k k0 k1 : Nat} {f g : List Int32} (hk : k = 0 ∨ k = 1) (ha0 : h[k0]? = some (.inl (k, f))) (ha1 : h[k1]? = some (.inl (k, g)))
    {sp dp n : Int32} (h1 : ¬ sp < 0) (h2 : ¬ dp < 0) (h3 : ¬ n < 0) (h4 : sp.toNatClampNeg + n.toNatClampNeg ≤ f.length) (h5 : dp.toNatClampNeg + n.toNatClampNeg ≤ g.length) (hfit : k = 1 → ∀ x ∈ f, x = 0 ∨ x = 1)
    (hframes : 1 ≤ R.frames) (hlocals : (rest.map fun v => v.category).sum + (nativeFrameWords "java/lang/System" "arraycopy" 5 + 11) ≤ R.locals) (hdg : decode cc pc = .ok (.invokestatic index, 3))
    (kk : ∀ (H1 : Heap) (locs1 : List Loc), WdO G (h.set k1 (.inl (k, cpL f g sp.toNatClampNeg dp.toNatClampNeg n.toNatClampNeg))) H1 → va_S (AbA G) s.heap H1 locs1 → W p l e R s m args below meth c H1 locs1 cells slots Q (F0 m (pc + 3) ls rest)) : W p l e R s m args below meth c H locs cells slots Q (F0 m pc ls (.int n :: .int dp :: .ref (G.2.2.1 + k1) :: .int sp :: .ref (G.2.2.1 + k0) :: rest)) := by
  have nn : ∀ z : Int32, ¬ z < 0 → z.toInt = (z.toNatClampNeg : Int) := by
    intro z hz
    have hz0 : (0 : Int) ≤ z.toInt := by
      have := Int32.not_lt.mp hz
      simpa using Int32.le_iff_toInt_le.mp this
    show z.toInt = ((z.toInt.toNat : Nat) : Int)
    omega
  obtain ⟨ty, ht, hprim, hft⟩ : ∃ ty : FieldType, (tysO G)[k]? = some (G.2.1 k, ty) ∧ refKind ty = false ∧ ∀ i, i < n.toNatClampNeg → fits ty (.int (f.getD (sp.toNatClampNeg + i) 0)) = true := by
    rcases hk with rfl | rfl
    · exact ⟨.int, rfl, rfl, fun i _ => rfl⟩
    · refine ⟨.boolean, rfl, rfl, fun i hi => ?_⟩
      have hl : sp.toNatClampNeg + i < f.length := by omega
      have hm : f.getD (sp.toNatClampNeg + i) 0 ∈ f := by
        rw [List.getD_eq_getElem?_getD, List.getElem?_eq_getElem hl]
        exact List.getElem_mem hl
      rcases hfit rfl _ hm with e | e <;> rw [e] <;> decide
  intro T hT X
  have hc0 : H[G.2.2.1 + k0]? = some (vp_cell (G.2.1 k) (f.length, .inl (fun i => f.getD i 0))) := hW.2 k0 _ (wsO_some ha0)
  have hc1 : H[G.2.2.1 + k1]? = some (vp_cell (G.2.1 k) (g.length, .inl (fun i => g.getD i 0))) := hW.2 k1 _ (wsO_some ha1)
  obtain ⟨-, kA, hkA, cmA, hkkA⟩ := (hK.2 k _ ht).1 f.length (fun j => .int (f.getD j 0))
  obtain ⟨-, kB, hkB, cmB, hkkB⟩ := (hK.2 k _ ht).1 g.length (fun j => .int (g.getD j 0))
  obtain ⟨vm', X', step⟩ := X.arraycopy hx hown hlink hnat hstat hini (src := G.2.2.1 + k0) (dst := G.2.2.1 + k1) (cs := vp_cell (G.2.1 k) (f.length, .inl (fun i => f.getD i 0))) (cd := vp_cell (G.2.1 k) (g.length, .inl (fun i => g.getD i 0))) (srcPos := sp) (destPos := dp) (n := n) (by rw [hT]; exact hc0) (by rw [hT]; exact hc1)
    (fun _ h => by cases h) (fun _ h => by cases h) (fun h => by cases h) (fun h => by cases h) hkA hkB hkkA hkkB (by simp [hprim]) h1 h2 h3
    (by rw [nn sp h1, nn n h3]; show ¬ _ > ((arrV _ _ _).slots.size : Int); rw [arrV_size]; omega)
    (by rw [nn dp h2, nn n h3]; show ¬ _ > ((arrV _ _ _).slots.size : Int); rw [arrV_size]; omega)
    (fun vm₁ _ i hi => by
      have e : (vp_cell (G.2.1 k) (f.length, .inl (fun i => f.getD i 0))).slots.getD (sp.toNatClampNeg + i) .null = .int (f.getD (sp.toNatClampNeg + i) 0) := by
        show (arrV _ _ (fun j => .int (f.getD j 0))).slots.getD _ _ = _
        rw [Array.getD_eq_getD_getElem?, arrV_read _ _ (by omega)]
        rfl
      refine ⟨?_, ?_⟩
      · rw [e]
        exact hft i hi
      · rw [e]
        exact trivial)
    (g := F0 m pc ls (.int n :: .int dp :: .ref (G.2.2.1 + k1) :: .int sp :: .ref (G.2.2.1 + k0) :: rest)) rfl (by rw [hml]) (rest := rest) rfl (by rw [hb]; exact hdg) hframes (by show 2 * 0 + _ + _ ≤ _; omega)
  have e1 : copied (vp_cell (G.2.1 k) (f.length, .inl (fun i => f.getD i 0))) (vp_cell (G.2.1 k) (g.length, .inl (fun i => g.getD i 0))) sp dp n = vp_cell (G.2.1 k) (g.length, .inl (va_cpy (fun i => f.getD i 0) (fun i => g.getD i 0) sp.toNatClampNeg dp.toNatClampNeg n.toNatClampNeg)) := va_copied (fun z => .int z) (G.2.1 k) (G.2.1 k) (n0 := f.length) (n1 := g.length) (dp := dp.toNatClampNeg) (fun i => f.getD i 0) (fun i => g.getD i 0) h4
  rw [e1] at X' step
  have hl : G.2.2.1 + k1 < H.size := (Array.getElem?_eq_some_iff.mp hc1).1
  generalize hcell : vp_cell (G.2.1 k) (g.length, .inl (va_cpy (fun i => f.getD i 0) (fun i => g.getD i 0) sp.toNatClampNeg dp.toNatClampNeg n.toNatClampNeg)) = cell1 at X' step
  have hheap : ((T.setVm vm').setCell (G.2.2.1 + k1) cell1).heap = H.setIfInBounds (G.2.2.1 + k1) cell1 := by rw [← hT]; rfl
  have oq : ∀ q : Nat, q ≠ G.2.2.1 + k1 → (H.setIfInBounds (G.2.2.1 + k1) cell1)[q]? = H[q]? := fun q hq => by simp [Array.getElem?_setIfInBounds, Ne.symm hq]
  have hw : WdO G (h.set k1 (.inl (k, cpL f g sp.toNatClampNeg dp.toNatClampNeg n.toNatClampNeg))) (H.setIfInBounds (G.2.2.1 + k1) cell1) := by
    refine WdO_set hW ha1 ?_ (by simp) oq
    show (H.setIfInBounds (G.2.2.1 + k1) cell1)[G.2.2.1 + k1]? = some (vp_cell _ _)
    rw [show (H.setIfInBounds (G.2.2.1 + k1) cell1)[G.2.2.1 + k1]? = some cell1 by simp [Array.getElem?_setIfInBounds, hl], ← hcell, cpL_len]
    rw [show (va_cpy (fun i => f.getD i 0) (fun i => g.getD i 0) sp.toNatClampNeg dp.toNatClampNeg n.toNatClampNeg) = (fun i => (cpL f g sp.toNatClampNeg dp.toNatClampNeg n.toNatClampNeg).getD i 0) from funext (fun j => (cpL_at _ _ _ _ _ h5 j).symm)]
  obtain ⟨t, a1, b1⟩ := kk _ _ hw ⟨by simp; exact hS.1, fun q g1 g2 => by
      rw [oq q (fun e => g2 (by rw [e]; exact Nat.le_add_right _ _))]
      exact hS.2.1 q g1 g2, fun q hq => by
      rcases List.mem_append.mp hq with h | h
      · exact hS.2.2 q h
      · obtain ⟨z, -, hz⟩ := List.mem_map.mp h
        rw [← hz]
        exact Nat.le_add_right _ _⟩ _ hheap X'
  exact ⟨t, step t a1, b1⟩
theorem sm_clone (hx : p.tables.exec = Jvm.exec) (hb : c.code = cc) (hml : c.maxLocals = ls.size) {own : String} {index : Nat} (hown : s.vm.findClass own = some m.cls)
    (hlink : (Cond.methodLink own index ⟨"[I", "clone", "()Ljava/lang/Object;"⟩).before args s = true) (hts : ∀ w ∈ tblG, w.before args s = true) (hcl : va_Nw (.castable "[I" "java/lang/Cloneable") s)
    (hK : va_K G.1 vwCl (tysO G) s) (hW : WdO G h H) (hS : va_S (AbA G) s.heap H locs) {k0 : Nat} {f : List Int32} (ha0 : h[k0]? = some (.inl (0, f)))
    (hframes : 1 ≤ R.frames) (hlocals : (rest.map fun v => v.category).sum + 14 ≤ R.locals) (hcells : cells + 1 ≤ R.cells) (hslots : slots + f.length ≤ R.slots) (hdg : decode cc pc = .ok (.invokevirtual index, 3))
    (kk : ∀ (H1 : Heap), WdO G (h ++ [.inl (0, f)]) H1 → va_S (AbA G) s.heap H1 locs → W p l e R s m args below meth c H1 locs (cells + 1) (slots + f.length) Q (F0 m (pc + 3) ls (.ref (G.2.2.1 + h.length) :: rest))) : W p l e R s m args below meth c H locs cells slots Q (F0 m pc ls (.ref (G.2.2.1 + k0) :: rest)) := by
  rw [← hW.1] at kk
  have hnm : s.vm.findClass "[I" = some (G.2.1 0) := va_nm_int (hK.2 0 _ rfl).2
  obtain ⟨c0, t0', f1, f2, f3⟩ := Cond.castable_spec (va_Nw.use (A := args) rfl hcl)
  cases hnm.symm.trans f1
  intro T hT X
  have hcellT : T.heap[G.2.2.1 + k0]? = some (vp_cell (G.2.1 0) (f.length, .inl (fun i => f.getD i 0))) := by rw [hT]; exact hW.2 k0 _ (wsO_some ha0)
  obtain ⟨-, kA, hkA, comp, hkind⟩ := State.isArrayOf_alike X.warmed.alike ((hK.2 0 _ rfl).1 0 (fun _ => .null))
  obtain ⟨-, kS, hkS, compS, hkindS⟩ := (hK.2 0 _ rfl).1 0 (fun _ => .null)
  obtain ⟨vm', X', st⟩ := X.cloneArray hx hown hlink (hts _ tw_clone.1) (hts _ tw_clone.2.1) (hts _ tw_clone.2.2.1) (hts _ tw_clone.2.2.2) (a := G.2.2.1 + k0) (cell := vp_cell (G.2.1 0) (f.length, .inl (fun i => f.getD i 0))) hcellT (fun k h => by cases h) (fun h => by cases h) hnm f2 f3
    (fun i v hv => by
      have hk' : T.vm.classes[G.2.1 0]? = some kA := hkA
      have h9 : fits .int v = true := va_fit (fun i _ => rfl) i v hv
      show T.fitsSlot (G.2.1 0) _ i v = true
      simpa [State.fitsSlot, State.slotType?, hk', hkind] using h9)
    (g := F0 m pc ls (.ref (G.2.2.1 + k0) :: rest)) rfl (by rw [hml]) rfl (by rw [hb]; exact hdg) hframes (by show 2 * 0 + _ + 14 ≤ _; omega) hcells (by show _ + (arrV _ _ _).slots.size ≤ _; rw [arrV_size]; exact hslots) (hloader := Vm.clonesLoader_of_array hkS hkindS)
  rw [show (vp_cell (G.2.1 0) (f.length, .inl (fun i => f.getD i 0))).slots.size = f.length from arrV_size _ _ _] at X'
  generalize hH1 : H.push (vp_cell (G.2.1 0) (f.length, .inl (fun i => f.getD i 0))) = H1
  have z1 : H1.size = H.size + 1 := by rw [← hH1, Array.size_push]
  have e1 : H1[H.size]? = some (vp_cell (G.2.1 0) (f.length, .inl (fun i => f.getD i 0))) := by rw [← hH1, Array.getElem?_push_size]
  have o1 : ∀ q : Nat, q < H.size → H1[q]? = H[q]? := fun q hq => by rw [← hH1, Array.getElem?_push, if_neg (Nat.ne_of_lt hq)]
  obtain ⟨t, b1, b2⟩ := kk H1 (WdO_push hW (by rw [← hW.1]; exact e1) z1 o1) (sm_grow hS z1 o1) ((T.setVm vm').pushCell (vp_cell (G.2.1 0) (f.length, .inl (fun i => f.getD i 0)))) (by rw [← hH1, ← hT]; rfl) X'
  refine ⟨t, st t ?_, b2⟩
  rw [hT]
  exact b1
end ROWS2
end
section
/-! ONE INSTRUCTION OF THE SMALL MACHINE IS ONE OF THE MACHINE -/
noncomputable def wsM (y : Nat) : List Cond := .code (mNm y) (mCd y) (mMx y) (mRt y) :: tblG
def rmM (d mc ms : Nat) : Room := { frames := d, cells := mc, slots := ms, locals := 64 * d }
def PcM (G : AG) (xs : List Int32) (args : List Value) (h : AH) : Array Value → State → Prop := va_Pc (args.map (cv G)) (fun U => WdO G h U.heap ∧ Am G xs U)
def QcM (G : AG) (Q : QT) : Array Value → State → Outcome → State → Prop := fun _ st oc t => (∃ r h', oc = .returned (r.map (cv G)) ∧ Q r h' ∧ WdO G h' t.heap) ∧ va_F (AbA G) st t
theorem PcM_blind {G : AG} {xs : List Int32} {args : List Value} {h : AH} : FrameBlind (PcM G xs args h) := by
  rintro a U g mk ⟨h1, h2, h3⟩
  exact ⟨h1, h2, h3.same rfl rfl⟩
theorem tblG_good : GoodIn tblG tblG := fun w hw => ⟨hw, good_of_word (List.mem_filter.mp hw).2⟩
theorem wsM_good {y : Nat} (h : y < 190) : GoodIn tblG (wsM y) := fun w hw => by
  rcases List.mem_cons.mp hw with rfl | hw
  · exact tblG_good _ (cw_in h)
  · exact tblG_good w hw
theorem goodIn_c {big : List Cond} {w : Cond} {ws : List Cond} (h1 : w ∈ big ∧ goodWord w = true) (h2 : GoodIn big ws) : GoodIn big (w :: ws) := fun x hx => by
  rcases List.mem_cons.mp hx with rfl | hx
  · exact ⟨h1.1, good_of_word h1.2⟩
  · exact h2 x hx
theorem tblG_w {w : Cond} (h : w ∈ tblG) : w ∈ tblG ∧ goodWord w = true := ⟨h, (List.mem_filter.mp h).2⟩
/-- what okM says -/
theorem okM_e {y : Nat} (h : y < 190) : (mFl y = 0 → Cond.static (mNm y) ∈ tblG) ∧ (mFl y ≠ 0 → Cond.instanceMethod (mNm y) ∈ tblG) ∧ (mFl y = 1 → Cond.selects (mNm y).cls (mNm y) (mNm y) ∈ tblG) ∧ Cond.initialized (mNm y).cls ∈ tblG ∧ (mNm y).cls = clsN (mCn y) ∧ (parseMethodDescriptor (mNm y).desc).map (fun d => d.parameters.length) = some (mNa y) ∧ mMx y ≤ 45 ∧ (mFl y = 2 → (mNm y).name = "<init>" ∧ mRt y = none) ∧ (mNm y).cls ≠ "java/lang/invoke/MethodHandle" ∧ (mNm y).cls ≠ "java/lang/invoke/VarHandle" ∧ plainName (mNm y).cls = true := by
  have h1 := okM_all h
  unfold okM at h1
  simp only [Bool.and_eq_true, decide_eq_true_eq] at h1
  obtain ⟨⟨⟨⟨⟨⟨⟨⟨⟨a1, a2⟩, a3⟩, a4⟩, a5⟩, a6⟩, a7⟩, a8⟩, a9⟩, a10⟩ := h1
  refine ⟨fun q => ?_, fun q => ?_, fun q => ?_, inT_e a3, a4, a5, a6, fun q => ?_, a8, a9, a10⟩
  · rw [if_pos q] at a1
    exact inT_e a1
  · rw [if_neg q] at a1
    exact inT_e a1
  · rw [if_pos q] at a2
    exact inT_e a2
  · rw [if_pos q] at a7
    simpa using a7
theorem roL_inr {xs : List Int32} {p k : Nat} {fs : List Value} (h : (roL xs)[p]? = some (.inr (k, fs))) : k = 60 := by
  have h1 := List.mem_of_getElem? h
  simp only [roL, List.mem_cons, List.not_mem_nil, or_false, Sum.inr.injEq, Prod.mk.injEq, reduceCtorEq, false_or] at h1
  omega
theorem roL_k {xs : List Int32} {p k : Nat} {f : List Int32} (h : (roL xs)[p]? = some (.inl (k, f))) : k = 0 ∨ k = 3 := by
  have h1 := List.mem_of_getElem? h
  simp only [roL, List.mem_cons, List.not_mem_nil, or_false, Sum.inl.injEq, Prod.mk.injEq, reduceCtorEq, false_or] at h1
  omega
section STP
variable {p : Program} {l : Launch} {e : Env} {R : Room} {s : State} {m : MethodId} {args : Array Value} {below : List Frame} {meth : Method} {c : Code} {G : AG} {xs : List Int32} {y d : Nat} {Z : State → Prop} {call : CT} {Q : QT}
def KW (p : Program) (l : Launch) (e : Env) (R : Room) (s : State) (m : MethodId) (args : Array Value) (below : List Frame) (meth : Method) (c : Code) (G : AG) (y : Nat) (Z : State → Prop) : KT := fun pc L st h mc ms =>
  ∀ (locs : List Loc) (H : Heap) (ls : Array Slot) (cells slots : Nat), WdO G h H → va_S (AbA G) s.heap H locs → lvO G ls (mMx y) L → cells + mc = R.cells → slots + ms = R.slots → W p l e R s m args below meth c H locs cells slots Z (F0 m pc ls (st.map (cv G)))
def EnvM (p : Program) (R : Room) (s : State) (m : MethodId) (args : Array Value) (meth : Method) (c : Code) (G : AG) (xs : List Int32) (y d : Nat) : Prop :=
  p.tables.exec = Jvm.exec ∧ c.code = mCd y ∧ c.maxLocals = mMx y ∧ s.vm.findClass (clsN (mCn y)) = some m.cls ∧ (∀ w ∈ tblG, w.before args s = true) ∧ Am G xs s ∧ (mFl y = 2 → meth.name = "<init>") ∧ G.2.2.1 ≤ s.heap.size ∧ d + 1 ≤ R.frames ∧ 64 * (d + 1) ≤ R.locals
/-- behind a call -/
theorem va_callM {Q' : QT} {H : Heap} {locs : List Loc} {cells slots mc ms pc : Nat} {ls : Array Slot} {rest st0 : List Value} {a : Array Value} (hr : va_Run p l e R s m args below meth c H locs cells slots mc ms (F0 m pc ls st0) rest (QcM G Q' a) (AbA G)) (hS : va_S (AbA G) s.heap H locs)
    (kk : ∀ (r : Option Value) (h' : AH) (H1 : Heap) (locs1 : List Loc), Q' r h' → WdO G h' H1 → va_S (AbA G) s.heap H1 locs1 → W p l e R s m args below meth c H1 locs1 (cells + mc) (slots + ms) Z (F0 m (pc + 3) ls ((r.map (cv G)).toList ++ rest))) : W p l e R s m args below meth c H locs cells slots Z (F0 m pc ls st0) := by
  intro T hT X
  obtain ⟨v, st₀, t, T', L, h0, X', hL, e1, e2, ⟨⟨r, h', hv, hq, hw⟩, hz, hk⟩, st⟩ := hr T hT X
  cases hv
  rw [h0] at hz hk
  obtain ⟨t2, a1, b1⟩ := kk r h' T'.heap (locs ++ L) hq (by rw [e1]; exact hw)
    ⟨Nat.le_trans hS.1 (by rw [e1]; exact hz), fun q h1 h2 => by rw [e1, hk q (Nat.lt_of_lt_of_le h1 hS.1) h2]; exact hS.2.1 q h1 h2, fun q hq => by
      rcases List.mem_append.mp hq with h | h
      · exact hS.2.2 q h
      · exact hL q h⟩ T' rfl X'
  exact ⟨t2, st t2 a1, b1⟩
theorem preS_M {h : AH} {H : Heap} {locs : List Loc} {as : List Value} (hAm : Am G xs s) (hW : WdO G h H) (hS : va_S (AbA G) s.heap H locs) : PreS s H (PcM G xs as h) (as.map (cv G)) :=
  ⟨PcM_blind, fun U hU hWm => ⟨rfl, by rw [hU]; exact hW, hAm.warm hWm (fun a h1 h2 => by rw [hU]; exact hS.2.1 a h1 h2)⟩⟩
/-- a call of the small machine is one of the machine's -/
def CallOk (l : Launch) (G : AG) (xs : List Int32) (d : Nat) (call : CT) : Prop := ∀ (a mc ms : Nat) (as : List Value) (h : AH) (Q : QT), a < 190 → call a mc ms as h Q → Met l (mNm a) (wsM a) (rmM d mc ms) (PcM G xs as h) (QcM G Q) mc ms (AbA G)
theorem mapr_l (r : Option Value) (st : List Value) : (r.map (cv G)).toList ++ st.map (cv G) = (r.toList ++ st).map (cv G) := by cases r <;> rfl
theorem td_map (st : List Value) (b : Nat) : st.map (cv G) = (((st.take b).reverse).map (cv G)).reverse ++ (st.drop b).map (cv G) := by
  rw [← List.map_reverse, List.reverse_reverse, ← List.map_append, List.take_append_drop]
theorem td_len {st : List Value} {b : Nat} (h : b ≤ st.length) : (((st.take b).reverse).map (cv G)).length = b := by
  rw [List.length_map, List.length_reverse, List.length_take]
  omega
set_option maxHeartbeats 1000000 in
theorem W_static (E : EnvM p R s m args meth c G xs y d) (hcall : CallOk l G xs d call) {pc k a b : Nat} {L : LoS} {st : List Value} {h : AH} {mc ms : Nat} {locs : List Loc} {H : Heap} {ls : Array Slot} {cells slots : Nat} (hW : WdO G h H) (hS : va_S (AbA G) s.heap H locs) (hL : lvO G ls (mMx y) L) (hc : cells + mc = R.cells) (hsl : slots + ms = R.slots)
    (hd : decode (mCd y) pc = .ok (.invokestatic k, 3)) (ha : a < 190) (hb' : b = mNa a) (hfl : mFl a = 0) (hk : (mCn y, k, a, 0) ∈ MLl ∨ (mCn y, k, a, 1) ∈ NLl)
    (hs : b ≤ st.length ∧ cal call (fun s' h mc ms => KW p l e R s m args below meth c G y Z (pc + 3) L s' h mc ms) a (st.take b).reverse (st.drop b) h mc ms) : W p l e R s m args below meth c H locs cells slots Z (F0 m pc ls (st.map (cv G))) := by
  obtain ⟨hx, hb, hml, hown, hts, hAm, hin2, hbs, hf, hlo⟩ := E
  obtain ⟨hlen, hcat, mc', ms', g1, g2, hq⟩ := hs
  obtain ⟨o1, o2, o3, o4, o5, o6, o7, o8, o9, o10, o11⟩ := okM_e ha
  obtain ⟨Q', hQ'⟩ : ∃ Q' : QT, Q' = (fun r h' => KW p l e R s m args below meth c G y Z (pc + 3) L (r.toList ++ st.drop b) h' (mc - mc') (ms - ms')) := ⟨_, rfl⟩
  have hM : Met l (mNm a) (wsM a) (rmM d mc' ms') (PcM G xs (st.take b).reverse h) (QcM G Q') mc' ms' (AbA G) := by
    rw [hQ']
    exact hcall a mc' ms' _ h _ ha hq
  have hR : (rmM d mc' ms').frames + 1 ≤ R.frames ∧ 8 + (mMx a + 11) + (rmM d mc' ms').locals ≤ R.locals := by
    constructor
    · exact hf
    · show 8 + (mMx a + 11) + 64 * d ≤ R.locals
      omega
  have run : va_Run p l e R s m args below meth c H locs cells slots mc' ms' (F0 m pc ls (st.map (cv G))) ((st.drop b).map (cv G)) (QcM G Q' (((st.take b).reverse).map (cv G)).toArray) (AbA G) := by
    rcases hk with hk | hk
    · exact va_runS ⟨hx, hb, hml, hown, hts⟩ hM (va_cwS b hts (goodIn_c (tblG_w (ML_w _ hk)) (goodIn_c (tblG_w (o1 hfl)) (goodIn_c (tblG_w o4) (wsM_good ha)))) rfl rfl rfl ⟨o9, o10, by rw [o6, hb']⟩ hR) (preS_M hAm hW hS) rfl (td_len hlen) hL.2.1 (td_map st b) (lv_room (by rw [cat_map]; exact hcat)) hd (by constructor <;> omega)
    · have hnest : va_Nw (.methodLinkNest (clsN (mCn y)) k (mNm a) "LooksServed") s := hAm.2.2.2.2.2.1 (mCn y, k, a, 1) hk
      have cw : va_CN R s args (clsN (mCn y)) k (mNm a) "LooksServed" (mCd a) (mMx a) (mRt a) (wsM a) (rmM d mc' ms') mc' ms' b := va_cnB (ws' := tblG) b hts (wsM_good ha) (by unfold wsM; rfl) (by unfold rmM; rfl) (by unfold rmM; rfl) hnest (hts _ o4) ⟨o9, o10, by rw [o6, hb']⟩ hR
      exact va_runSN (own := clsN (mCn y)) (host := "LooksServed") (bytes := mCd a) (maxL := mMx a) (ret := mRt a) ⟨hx, hb, hml, hown, hts⟩ hM ⟨cw, hts _ (o1 hfl), trivial⟩ (preS_M hAm hW hS) rfl (td_len hlen) hL.2.1 (td_map st b) (lv_room (by rw [cat_map]; exact hcat)) hd (by constructor <;> omega)
  refine va_callM run hS (fun r h' H1 locs1 hq' hW1 hS1 => ?_)
  rw [mapr_l]
  rw [hQ'] at hq'
  exact hq' locs1 H1 ls _ _ hW1 hS1 hL (by omega) (by omega)
set_option maxHeartbeats 1000000 in
theorem W_virtual (E : EnvM p R s m args meth c G xs y d) (hcall : CallOk l G xs d call) {pc k a b : Nat} {L : LoS} {st : List Value} {h : AH} {mc ms : Nat} {locs : List Loc} {H : Heap} {ls : Array Slot} {cells slots : Nat} (hW : WdO G h H) (hS : va_S (AbA G) s.heap H locs) (hL : lvO G ls (mMx y) L) (hc : cells + mc = R.cells) (hsl : slots + ms = R.slots)
    (hd : decode (mCd y) pc = .ok (.invokevirtual k, 3)) (ha : a < 190) (hb' : b = mNa a) (hfl : mFl a = 1) (hk : (mCn y, k, a, 20) ∈ MLl) (hcn : mCn a < 8 ∨ mCn a = 60)
    (hs : b ≤ st.length ∧ pR (st.drop b) (fun q s' => cO xs h q (mCn a) (fun _ => cal call (fun s' h mc ms => KW p l e R s m args below meth c G y Z (pc + 3) L s' h mc ms) a (.ref q :: (st.take b).reverse) s' h mc ms))) : W p l e R s m args below meth c H locs cells slots Z (F0 m pc ls (st.map (cv G))) := by
  obtain ⟨hx, hb, hml, hown, hts, hAm, hin2, hbs, hf, hlo⟩ := E
  obtain ⟨hlen, hs⟩ := hs
  obtain ⟨q, s', hst, hs⟩ := pR_e hs
  obtain ⟨fs, hcell, hcat, mc', ms', g1, g2, hq⟩ := cO_e hs
  obtain ⟨o1, o2, o3, o4, o5, o6, o7, o8, o9, o10, o11⟩ := okM_e ha
  obtain ⟨Q', hQ'⟩ : ∃ Q' : QT, Q' = (fun r h' => KW p l e R s m args below meth c G y Z (pc + 3) L (r.toList ++ s') h' (mc - mc') (ms - ms')) := ⟨_, rfl⟩
  have hM : Met l (mNm a) (wsM a) (rmM d mc' ms') (PcM G xs (.ref q :: (st.take b).reverse) h) (QcM G Q') mc' ms' (AbA G) := by
    rw [hQ']
    exact hcall a mc' ms' _ h _ ha hq
  have hR : (rmM d mc' ms').frames + 1 ≤ R.frames ∧ 8 + (mMx a + 11) + (rmM d mc' ms').locals ≤ R.locals := by
    constructor
    · exact hf
    · show 8 + (mMx a + 11) + 64 * d ≤ R.locals
      omega
  have hrecv : ∃ cellB : Cell, H[plG G q]? = some cellB ∧ cellB.vm.isStatics = false ∧ s.vm.findClass (mNm a).cls = some cellB.cls := by
    rw [o5]
    unfold smC at hcell
    split at hcell
    · rename_i hlt
      have h60 := roL_inr hcell
      rw [h60] at hcell ⊢
      obtain ⟨cell, w1, w2, w3, -⟩ := ((hAm.2.2.1 q fs hcell).1).kept hS.2.1
      exact ⟨cell, by unfold plG; rw [if_pos hlt]; exact w1, w2, w3⟩
    · rename_i hlt
      have hl := wsO_some (G := G) hcell
      rw [ce_obj G fs (by omega)] at hl
      obtain ⟨r, h1, -⟩ := hW.2 _ _ hl
      have h8 : mCn a < 8 := (List.getElem?_eq_some_iff.mp h1).1
      rw [plG_hi G (by omega)]
      exact va_recv hAm.1 hW.2 (vw_at h8) hl
  have hstk : st.map (cv G) = (((st.take b).reverse).map (cv G)).reverse ++ .ref (plG G q) :: s'.map (cv G) := by
    rw [td_map (G := G) st b, hst]
    rfl
  have run : va_Run p l e R s m args below meth c H locs cells slots mc' ms' (F0 m pc ls (st.map (cv G))) (s'.map (cv G)) (QcM G Q' (Value.ref (plG G q) :: ((st.take b).reverse).map (cv G)).toArray) (AbA G) :=
    va_runV (C := (mNm a).cls) ⟨hx, hb, hml, hown, hts⟩ hM (cwV b hts (goodIn_c (tblG_w (ML_w _ hk)) (goodIn_c (tblG_w (o2 (by omega))) (goodIn_c (tblG_w (o3 hfl)) (goodIn_c (tblG_w o4) (wsM_good ha))))) rfl rfl rfl ⟨rfl, o9, o10, by rw [o6, hb']⟩ hR) ⟨PcM_blind, hrecv, (preS_M (as := .ref q :: (st.take b).reverse) hAm hW hS).2⟩ rfl (td_len hlen) hL.2.1 hstk (lv_room (by rw [cat_map]; exact hcat)) hd (by constructor <;> omega)
  refine va_callM run hS (fun r h' H1 locs1 hq' hW1 hS1 => ?_)
  rw [mapr_l]
  rw [hQ'] at hq'
  exact hq' locs1 H1 ls _ _ hW1 hS1 hL (by omega) (by omega)
set_option maxHeartbeats 1000000 in
theorem W_special (E : EnvM p R s m args meth c G xs y d) (hcall : CallOk l G xs d call) {pc k a b : Nat} {L : LoS} {st : List Value} {h : AH} {mc ms : Nat} {locs : List Loc} {H : Heap} {ls : Array Slot} {cells slots : Nat} (hW : WdO G h H) (hS : va_S (AbA G) s.heap H locs) (hL : lvO G ls (mMx y) L) (hc : cells + mc = R.cells) (hsl : slots + ms = R.slots)
    (hd : decode (mCd y) pc = .ok (.invokespecial k, 3)) (ha : a < 190) (hb' : b = mNa a) (hfl : mFl a = 2) (hk : (mCn y, k, a, 10) ∈ MLl ∨ (mCn y, k, a, 11) ∈ NLl)
    (hs : b ≤ st.length ∧ pR (st.drop b) (fun q s' => 32 ≤ q ∧ cal call (fun s' h mc ms => KW p l e R s m args below meth c G y Z (pc + 3) L s' h mc ms) a (.ref q :: (st.take b).reverse) s' h mc ms)) : W p l e R s m args below meth c H locs cells slots Z (F0 m pc ls (st.map (cv G))) := by
  obtain ⟨hx, hb, hml, hown, hts, hAm, hin2, hbs, hf, hlo⟩ := E
  obtain ⟨hlen, hs⟩ := hs
  obtain ⟨q, s', hst, -, hcat, mc', ms', g1, g2, hq⟩ := pR_e hs
  obtain ⟨o1, o2, o3, o4, o5, o6, o7, o8, o9, o10, o11⟩ := okM_e ha
  obtain ⟨Q', hQ'⟩ : ∃ Q' : QT, Q' = (fun r h' => KW p l e R s m args below meth c G y Z (pc + 3) L (r.toList ++ s') h' (mc - mc') (ms - ms')) := ⟨_, rfl⟩
  have hM : Met l (mNm a) (wsM a) (rmM d mc' ms') (PcM G xs (.ref q :: (st.take b).reverse) h) (QcM G Q') mc' ms' (AbA G) := by
    rw [hQ']
    exact hcall a mc' ms' _ h _ ha hq
  have hR : (rmM d mc' ms').frames + 1 ≤ R.frames ∧ 8 + (mMx a + 11) + (rmM d mc' ms').locals ≤ R.locals := by
    constructor
    · exact hf
    · show 8 + (mMx a + 11) + 64 * d ≤ R.locals
      omega
  have hstk : st.map (cv G) = (((st.take b).reverse).map (cv G)).reverse ++ .ref (plG G q) :: s'.map (cv G) := by
    rw [td_map (G := G) st b, hst]
    rfl
  obtain ⟨hnm, hrt⟩ := o8 hfl
  have hws : wsM a = .code (mNm a) (mCd a) (mMx a) none :: tblG := by
    unfold wsM
    rw [hrt]
  have hpre : PreS s H (PcM G xs (.ref q :: (st.take b).reverse) h) (.ref (plG G q) :: ((st.take b).reverse).map (cv G)) := preS_M (as := .ref q :: (st.take b).reverse) hAm hW hS
  have run : va_Run p l e R s m args below meth c H locs cells slots mc' ms' (F0 m pc ls (st.map (cv G))) (s'.map (cv G)) (QcM G Q' (Value.ref (plG G q) :: ((st.take b).reverse).map (cv G)).toArray) (AbA G) := by
    rcases hk with hk | hk
    · exact va_runI ⟨hx, hb, hml, hown, hts⟩ hM (cwI b hts (wsM_good ha) hws rfl rfl (hts _ o4) (hts _ (ML_w _ hk)) (hts _ (o2 (by omega))) hnm ⟨o9, o10, by rw [o6, hb']⟩ hR) hpre rfl (td_len hlen) hL.2.1 hstk (lv_room (by rw [cat_map]; exact hcat)) hd (by constructor <;> omega)
    · have hnest : va_Nw (.methodLinkNest (clsN (mCn y)) k (mNm a) "LooksServed") s := hAm.2.2.2.2.2.1 (mCn y, k, a, 11) hk
      have cw : va_CN R s args (clsN (mCn y)) k (mNm a) "LooksServed" (mCd a) (mMx a) none (wsM a) (rmM d mc' ms') mc' ms' b := va_cnB (ws' := tblG) b hts (wsM_good ha) hws (by unfold rmM; rfl) (by unfold rmM; rfl) hnest (hts _ o4) ⟨o9, o10, by rw [o6, hb']⟩ hR
      exact va_runIN (own := clsN (mCn y)) (host := "LooksServed") (bytes := mCd a) (maxL := mMx a) ⟨hx, hb, hml, hown, hts⟩ hM ⟨cw, hnm, hts _ (o2 (by omega))⟩ hpre rfl (td_len hlen) hL.2.1 hstk (lv_room (by rw [cat_map]; exact hcat)) hd (by constructor <;> omega)
  refine va_callM run hS (fun r h' H1 locs1 hq' hW1 hS1 => ?_)
  rw [mapr_l]
  rw [hQ'] at hq'
  exact hq' locs1 H1 ls _ _ hW1 hS1 hL (by omega) (by omega)
end STP
end
section
/-! THE SMALL MACHINE IS SOUND -/
theorem vcn_c : (List.range 190).all (fun y => decide (mFl y = 1 → mCn y < 8 ∨ mCn y = 60)) = true := by decide +kernel
theorem vcn {y : Nat} (h : y < 190) (hf : mFl y = 1) : mCn y < 8 ∨ mCn y = 60 := of_decide_eq_true (List.all_eq_true.mp vcn_c y (List.mem_range.mpr h)) hf
theorem lkO (ps : List (Int × Int)) (d x : Int) : Op.lookupswitch.offset ps d x = d ∨ ∃ q ∈ ps, Op.lookupswitch.offset ps d x = q.2 := by
  induction ps with
  | nil => exact Or.inl (by simp [Op.lookupswitch.offset])
  | cons q ps ih =>
    by_cases hq : q.1 = x
    · exact Or.inr ⟨q, List.mem_cons_self, by simp [Op.lookupswitch.offset, hq]⟩
    · have e : Op.lookupswitch.offset (q :: ps) d x = Op.lookupswitch.offset ps d x := by simp [Op.lookupswitch.offset, hq]
      rw [e]
      rcases ih with ih | ⟨z, hz, ih⟩
      · exact Or.inl ih
      · exact Or.inr ⟨z, List.mem_cons_of_mem _ hz, ih⟩
theorem tgO_eq {pc : Nat} {o : Int} (h : swO pc o = true) : (pc : Int) + o = (tgO pc o : Int) := by
  unfold swO at h
  unfold tgO
  rw [decide_eq_true_eq] at h
  omega
theorem c1V_e {G : AG} {v : Value} (h : c1V v = true) : (cv G v).category = 1 := by cases v <;> first | rfl | cases h
theorem fitV_e {G : AG} {ty : FieldType} {v : Value} (h : fitV ty v) : narrow ty (cv G v) = cv G v ∧ fits ty (cv G v) = true := by
  unfold fitV at h
  split at h
  · exact ⟨rfl, rfl⟩
  · rcases h with h | h <;> subst h <;> exact ⟨rfl, rfl⟩
  · exact ⟨rfl, rfl⟩
  · exact ⟨rfl, rfl⟩
  · exact ⟨rfl, rfl⟩
  · exact ⟨rfl, rfl⟩
  · exact h.elim
theorem rfo_e {G : AG} {u : Value} (h1 : c1V u = true) (h2 : ∀ z, u ≠ .int z) : va_rf (rfo G u) = cv G u := by
  cases u with
  | int z => exact absurd rfl (h2 z)
  | ref a => rfl
  | null => rfl
  | _ => cases h1
section SOUND
variable {p : Program} {l : Launch} {e : Env} {R : Room} {s : State} {m : MethodId} {args : Array Value} {below : List Frame} {meth : Method} {c : Code} {G : AG} {xs : List Int32} {y d : Nat} {Z : State → Prop} {call : CT} {Q : QT}
def RetOk (p : Program) (l : Launch) (e : Env) (R : Room) (s : State) (m : MethodId) (args : Array Value) (below : List Frame) (meth : Method) (c : Code) (G : AG) (y : Nat) (Z : State → Prop) (Q : QT) : Prop :=
  (∀ (x : Int32) (h : AH) (H : Heap) (locs : List Loc) (cells slots pc : Nat) (ls : Array Slot), (mRt y = some .int ∨ (mRt y = some .boolean ∧ (x = 0 ∨ x = 1)) ∨ (mRt y = some .byte ∧ (-128 ≤ x ∧ x ≤ 127))) → Q (some (.int x)) h → WdO G h H → va_S (AbA G) s.heap H locs → cells ≤ R.cells → slots ≤ R.slots → decode (mCd y) pc = .ok (.ireturn, 1) → W p l e R s m args below meth c H locs cells slots Z (F0 m pc ls [.int x])) ∧
  (∀ (v : Value) (h : AH) (H : Heap) (locs : List Loc) (cells slots pc : Nat) (ls : Array Slot), ((∃ n, mRt y = some (.object n)) ∨ ∃ t, mRt y = some (.array t)) → (v = .null ∨ ∃ a, v = .ref a) → Q (some v) h → WdO G h H → va_S (AbA G) s.heap H locs → cells ≤ R.cells → slots ≤ R.slots → decode (mCd y) pc = .ok (.areturn, 1) → W p l e R s m args below meth c H locs cells slots Z (F0 m pc ls [cv G v])) ∧
  (∀ (h : AH) (H : Heap) (locs : List Loc) (cells slots pc : Nat) (ls : Array Slot), mRt y = none → Q none h → WdO G h H → va_S (AbA G) s.heap H locs → cells ≤ R.cells → slots ≤ R.slots → decode (mCd y) pc = .ok (.return_, 1) → W p l e R s m args below meth c H locs cells slots Z (F0 m pc ls []))
theorem smC_hi {h : AH} {q : Nat} {x : AC} (hq : 32 ≤ q) (e : smC xs h q = some x) : h[q - 32]? = some x := by
  unfold smC at e
  rwa [if_neg (by omega)] at e
theorem smC_lo {h : AH} {q : Nat} {x : AC} (hq : q < 32) (e : smC xs h q = some x) : (roL xs)[q]? = some x := by
  unfold smC at e
  rwa [if_pos hq] at e
theorem plG_lo {q : Nat} (hq : q < 32) : plG G q = G.2.2.2 q := by
  unfold plG
  rw [if_pos hq]
set_option maxHeartbeats 8000000 in
set_option maxRecDepth 4000 in
theorem stp_W (E : EnvM p R s m args meth c G xs y d) (hcall : CallOk l G xs d call) (hret : RetOk p l e R s m args below meth c G y Z Q) {r : RI} {pc : Nat} {L : LoS} {st : List Value} {h : AH} {mc ms : Nat} (hr : smI y pc = some r)
    (hs : stp xs call y Q (KW p l e R s m args below meth c G y Z) r pc L st h mc ms) : KW p l e R s m args below meth c G y Z pc L st h mc ms := by
  intro locs H ls cells slots hW hS hL hc hsl
  obtain ⟨hd, ho⟩ := smI_ok hr
  obtain ⟨i, nx, kd, a, b, v⟩ := r
  obtain ⟨hx, hb, hml, hown, hts, hAm, hin2, hbs, hf, hlo⟩ := id E
  obtain ⟨hK, hRO⟩ := id hAm
  dsimp only at hd
  have hlsz : ls.size = c.maxLocals := by rw [hml]; exact hL.2.1
  cases i
  case iconst n =>
    simp only [okR, Bool.and_eq_true, beq_iff_eq, decide_eq_true_eq] at ho
    obtain ⟨rfl, hv⟩ := ho
    rw [Nat.add_sub_cancel_left] at hd
    dsimp only [stp] at hs
    exact lv_iconst hx hb hd hv (hs _ _ _ _ _ hW hS hL hc hsl)
  case bipush n =>
    simp only [okR, Bool.and_eq_true, beq_iff_eq, decide_eq_true_eq] at ho
    obtain ⟨rfl, hv⟩ := ho
    rw [Nat.add_sub_cancel_left] at hd
    dsimp only [stp] at hs
    exact lv_bipush hx hb hd hv (hs _ _ _ _ _ hW hS hL hc hsl)
  case sipush n =>
    simp only [okR, Bool.and_eq_true, beq_iff_eq, decide_eq_true_eq] at ho
    obtain ⟨rfl, hv⟩ := ho
    rw [Nat.add_sub_cancel_left] at hd
    dsimp only [stp] at hs
    exact lv_sipush hx hb hd hv (hs _ _ _ _ _ hW hS hL hc hsl)
  case ldc k =>
    simp only [okR, Bool.and_eq_true, beq_iff_eq] at ho
    obtain ⟨rfl, hv⟩ := ho
    rw [Nat.add_sub_cancel_left] at hd
    dsimp only [stp] at hs
    by_cases ha : a = 0
    · rw [if_pos ha] at hs hv
      exact lv_ldc hx hb hown (hts _ (CO_w (mCn y, k, v) (of_decide_eq_true hv))) hd (hs _ _ _ _ _ hW hS hL hc hsl)
    · rw [if_neg ha] at hs hv
      obtain ⟨tx, ht⟩ := hRO.2.2.2.1 _ (of_decide_eq_true hv)
      exact va_ldcS hx hb hown ht hd (hs _ _ _ _ _ hW hS hL hc hsl)
  case ldc_w k =>
    simp only [okR, Bool.and_eq_true, beq_iff_eq, decide_eq_true_eq] at ho
    obtain ⟨rfl, hv⟩ := ho
    rw [Nat.add_sub_cancel_left] at hd
    dsimp only [stp] at hs
    exact lv_ldcw hx hb hown (hts _ (CO_w (mCn y, k, v) hv)) hd (hs _ _ _ _ _ hW hS hL hc hsl)
  case ldc2_w k =>
    simp only [okR, Bool.and_eq_true, beq_iff_eq, decide_eq_true_eq] at ho
    obtain ⟨rfl, hv⟩ := ho
    rw [Nat.add_sub_cancel_left] at hd
    dsimp only [stp] at hs
    exact lv_ldc2 hx hb hown (hts _ (C2_w (mCn y, k, a) hv)) hd (hs _ _ _ _ _ hW hS hL hc hsl)
  case aconst_null  =>
    simp only [okR, Bool.and_eq_true, beq_iff_eq, decide_eq_true_eq] at ho
    subst ho
    rw [Nat.add_sub_cancel_left] at hd
    dsimp only [stp] at hs
    exact lv_null hx hb hd (hs _ _ _ _ _ hW hS hL hc hsl)
  case iload n =>
    simp only [okR, Bool.and_eq_true, beq_iff_eq, decide_eq_true_eq] at ho
    subst ho
    rw [Nat.add_sub_cancel_left] at hd
    dsimp only [stp] at hs
    have hs0 := gI_e hs
    clear hs
    obtain ⟨x, hx1, hs⟩ := hs0
    exact lv_iload hx hb hd (hL.2.2.2 _ _ hx1) (hs _ _ _ _ _ hW hS hL hc hsl)
  case iload_n n =>
    simp only [okR, Bool.and_eq_true, beq_iff_eq, decide_eq_true_eq] at ho
    subst ho
    rw [Nat.add_sub_cancel_left] at hd
    dsimp only [stp] at hs
    have hs0 := gI_e hs
    clear hs
    obtain ⟨x, hx1, hs⟩ := hs0
    exact lv_iload_n hx hb hd rfl (hL.2.2.2 _ _ hx1) (hs _ _ _ _ _ hW hS hL hc hsl)
  case lload_n n =>
    simp only [okR, Bool.and_eq_true, beq_iff_eq, decide_eq_true_eq] at ho
    subst ho
    rw [Nat.add_sub_cancel_left] at hd
    dsimp only [stp] at hs
    have hs0 := gL_e hs
    clear hs
    obtain ⟨x, hx1, hs⟩ := hs0
    exact lv_lload_n hx hb hd rfl (hL.2.2.2 _ _ hx1) (hs _ _ _ _ _ hW hS hL hc hsl)
  case aload n =>
    simp only [okR, Bool.and_eq_true, beq_iff_eq, decide_eq_true_eq] at ho
    subst ho
    rw [Nat.add_sub_cancel_left] at hd
    dsimp only [stp] at hs
    have hs0 := gA_e hs
    clear hs
    rcases hs0 with ⟨x, hx1, hs⟩ | ⟨hx1, hs⟩
    · exact lv_aload hx hb hd (hL.2.2.2 _ _ hx1) (hs _ _ _ _ _ hW hS hL hc hsl)
    · exact lv_aloadN hx hb hd (hL.2.2.2 _ _ hx1) (hs _ _ _ _ _ hW hS hL hc hsl)
  case aload_n n =>
    simp only [okR, Bool.and_eq_true, beq_iff_eq, decide_eq_true_eq] at ho
    subst ho
    rw [Nat.add_sub_cancel_left] at hd
    dsimp only [stp] at hs
    have hs0 := gA_e hs
    clear hs
    rcases hs0 with ⟨x, hx1, hs⟩ | ⟨hx1, hs⟩
    · exact lv_aload_n hx hb hd rfl (hL.2.2.2 _ _ hx1) (hs _ _ _ _ _ hW hS hL hc hsl)
    · exact lv_aload_nN hx hb hd rfl (hL.2.2.2 _ _ hx1) (hs _ _ _ _ _ hW hS hL hc hsl)
  case istore n =>
    simp only [okR, Bool.and_eq_true, beq_iff_eq, decide_eq_true_eq] at ho
    subst ho
    rw [Nat.add_sub_cancel_left] at hd
    dsimp only [stp] at hs
    have hs0 := pI_e hs
    clear hs
    obtain ⟨x, st', rfl, hs⟩ := hs0
    have hs0 := sL_e hs
    clear hs
    obtain ⟨hk, hs⟩ := hs0
    exact lv_istore hx hb hd (lvO_has hL) (by rw [← hL.1]; exact lvO_lt hk) rfl (fun ls' hl' => hs _ _ _ _ _ hW hS (lvO_set hL hk hl') hc hsl)
  case istore_n n =>
    simp only [okR, Bool.and_eq_true, beq_iff_eq, decide_eq_true_eq] at ho
    subst ho
    rw [Nat.add_sub_cancel_left] at hd
    dsimp only [stp] at hs
    have hs0 := pI_e hs
    clear hs
    obtain ⟨x, st', rfl, hs⟩ := hs0
    have hs0 := sL_e hs
    clear hs
    obtain ⟨hk, hs⟩ := hs0
    exact lv_istore_n hx hb hd rfl (lvO_has hL) (by rw [← hL.1]; exact lvO_lt hk) rfl (fun ls' hl' => hs _ _ _ _ _ hW hS (lvO_set hL hk hl') hc hsl)
  case astore n =>
    simp only [okR, Bool.and_eq_true, beq_iff_eq, decide_eq_true_eq] at ho
    subst ho
    rw [Nat.add_sub_cancel_left] at hd
    dsimp only [stp] at hs
    have hs0 := pR_e hs
    clear hs
    obtain ⟨x, st', rfl, hs⟩ := hs0
    have hs0 := sL_e hs
    clear hs
    obtain ⟨hk, hs⟩ := hs0
    exact lv_astore hx hb hd (lvO_has hL) (by rw [← hL.1]; exact lvO_lt hk) rfl (fun ls' hl' => hs _ _ _ _ _ hW hS (lvO_set hL hk hl') hc hsl)
  case astore_n n =>
    simp only [okR, Bool.and_eq_true, beq_iff_eq, decide_eq_true_eq] at ho
    subst ho
    rw [Nat.add_sub_cancel_left] at hd
    dsimp only [stp] at hs
    have hs0 := pR_e hs
    clear hs
    obtain ⟨x, st', rfl, hs⟩ := hs0
    have hs0 := sL_e hs
    clear hs
    obtain ⟨hk, hs⟩ := hs0
    exact lv_astore_n hx hb hd rfl (lvO_has hL) (by rw [← hL.1]; exact lvO_lt hk) rfl (fun ls' hl' => hs _ _ _ _ _ hW hS (lvO_set hL hk hl') hc hsl)
  case iinc n w =>
    simp only [okR, Bool.and_eq_true, beq_iff_eq, decide_eq_true_eq] at ho
    obtain ⟨rfl, hv⟩ := ho
    rw [Nat.add_sub_cancel_left] at hd
    dsimp only [stp] at hs
    have hs0 := gI_e hs
    clear hs
    obtain ⟨x, hx1, hs⟩ := hs0
    have hs0 := sL_e hs
    clear hs
    obtain ⟨hk, hs⟩ := hs0
    obtain ⟨k, hk'⟩ := List.getElem?_of_mem (prO_mem (G := G) hx1)
    exact lv_iinc hx hb hd (lvO_has hL) hk' (by rw [hv]) (by rw [← hL.1]; exact lvO_lt hk) rfl (fun ls' hl' => hs _ _ _ _ _ hW hS (lvO_set (v := .int (x + v)) hL hk hl') hc hsl)
  case iadd  =>
    simp only [okR, Bool.and_eq_true, beq_iff_eq, decide_eq_true_eq] at ho
    subst ho
    rw [Nat.add_sub_cancel_left] at hd
    dsimp only [stp] at hs
    have hs0 := pI_e hs
    clear hs
    obtain ⟨x2, st', rfl, hs⟩ := hs0
    have hs0 := pI_e hs
    clear hs
    obtain ⟨x1, st2, rfl, hs⟩ := hs0
    exact lv_iadd hx hb hd (hs _ _ _ _ _ hW hS hL hc hsl)
  case isub  =>
    simp only [okR, Bool.and_eq_true, beq_iff_eq, decide_eq_true_eq] at ho
    subst ho
    rw [Nat.add_sub_cancel_left] at hd
    dsimp only [stp] at hs
    have hs0 := pI_e hs
    clear hs
    obtain ⟨x2, st', rfl, hs⟩ := hs0
    have hs0 := pI_e hs
    clear hs
    obtain ⟨x1, st2, rfl, hs⟩ := hs0
    exact lv_isub hx hb hd (hs _ _ _ _ _ hW hS hL hc hsl)
  case imul  =>
    simp only [okR, Bool.and_eq_true, beq_iff_eq, decide_eq_true_eq] at ho
    subst ho
    rw [Nat.add_sub_cancel_left] at hd
    dsimp only [stp] at hs
    have hs0 := pI_e hs
    clear hs
    obtain ⟨x2, st', rfl, hs⟩ := hs0
    have hs0 := pI_e hs
    clear hs
    obtain ⟨x1, st2, rfl, hs⟩ := hs0
    exact lv_imul hx hb hd (hs _ _ _ _ _ hW hS hL hc hsl)
  case iand  =>
    simp only [okR, Bool.and_eq_true, beq_iff_eq, decide_eq_true_eq] at ho
    subst ho
    rw [Nat.add_sub_cancel_left] at hd
    dsimp only [stp] at hs
    have hs0 := pI_e hs
    clear hs
    obtain ⟨x2, st', rfl, hs⟩ := hs0
    have hs0 := pI_e hs
    clear hs
    obtain ⟨x1, st2, rfl, hs⟩ := hs0
    exact lv_iand hx hb hd (hs _ _ _ _ _ hW hS hL hc hsl)
  case ior  =>
    simp only [okR, Bool.and_eq_true, beq_iff_eq, decide_eq_true_eq] at ho
    subst ho
    rw [Nat.add_sub_cancel_left] at hd
    dsimp only [stp] at hs
    have hs0 := pI_e hs
    clear hs
    obtain ⟨x2, st', rfl, hs⟩ := hs0
    have hs0 := pI_e hs
    clear hs
    obtain ⟨x1, st2, rfl, hs⟩ := hs0
    exact lv_ior hx hb hd (hs _ _ _ _ _ hW hS hL hc hsl)
  case ixor  =>
    simp only [okR, Bool.and_eq_true, beq_iff_eq, decide_eq_true_eq] at ho
    subst ho
    rw [Nat.add_sub_cancel_left] at hd
    dsimp only [stp] at hs
    have hs0 := pI_e hs
    clear hs
    obtain ⟨x2, st', rfl, hs⟩ := hs0
    have hs0 := pI_e hs
    clear hs
    obtain ⟨x1, st2, rfl, hs⟩ := hs0
    exact lv_ixor hx hb hd (hs _ _ _ _ _ hW hS hL hc hsl)
  case ishl  =>
    simp only [okR, Bool.and_eq_true, beq_iff_eq, decide_eq_true_eq] at ho
    subst ho
    rw [Nat.add_sub_cancel_left] at hd
    dsimp only [stp] at hs
    have hs0 := pI_e hs
    clear hs
    obtain ⟨x2, st', rfl, hs⟩ := hs0
    have hs0 := pI_e hs
    clear hs
    obtain ⟨x1, st2, rfl, hs⟩ := hs0
    exact lv_ishl hx hb hd (hs _ _ _ _ _ hW hS hL hc hsl)
  case ishr  =>
    simp only [okR, Bool.and_eq_true, beq_iff_eq, decide_eq_true_eq] at ho
    subst ho
    rw [Nat.add_sub_cancel_left] at hd
    dsimp only [stp] at hs
    have hs0 := pI_e hs
    clear hs
    obtain ⟨x2, st', rfl, hs⟩ := hs0
    have hs0 := pI_e hs
    clear hs
    obtain ⟨x1, st2, rfl, hs⟩ := hs0
    exact lv_ishr hx hb hd (hs _ _ _ _ _ hW hS hL hc hsl)
  case idiv  =>
    simp only [okR, Bool.and_eq_true, beq_iff_eq, decide_eq_true_eq] at ho
    subst ho
    rw [Nat.add_sub_cancel_left] at hd
    dsimp only [stp] at hs
    have hs0 := pI_e hs
    clear hs
    obtain ⟨x2, st', rfl, hs⟩ := hs0
    have hs0 := pI_e hs
    clear hs
    obtain ⟨x1, st2, rfl, h0, hs⟩ := hs0
    exact lv_idiv hx hb hd h0 (hs _ _ _ _ _ hW hS hL hc hsl)
  case irem  =>
    simp only [okR, Bool.and_eq_true, beq_iff_eq, decide_eq_true_eq] at ho
    subst ho
    rw [Nat.add_sub_cancel_left] at hd
    dsimp only [stp] at hs
    have hs0 := pI_e hs
    clear hs
    obtain ⟨x2, st', rfl, hs⟩ := hs0
    have hs0 := pI_e hs
    clear hs
    obtain ⟨x1, st2, rfl, h0, hs⟩ := hs0
    exact lv_irem hx hb hd h0 (hs _ _ _ _ _ hW hS hL hc hsl)
  case iushr  =>
    simp only [okR, Bool.and_eq_true, beq_iff_eq, decide_eq_true_eq] at ho
    subst ho
    rw [Nat.add_sub_cancel_left] at hd
    dsimp only [stp] at hs
    have hs0 := pI_e hs
    clear hs
    obtain ⟨x2, st', rfl, hs⟩ := hs0
    have hs0 := pI_e hs
    clear hs
    obtain ⟨x1, st2, rfl, hs⟩ := hs0
    exact lv_iushr hx hb hd rfl (hs _ _ _ _ _ hW hS hL hc hsl)
  case ineg  =>
    simp only [okR, Bool.and_eq_true, beq_iff_eq, decide_eq_true_eq] at ho
    subst ho
    rw [Nat.add_sub_cancel_left] at hd
    dsimp only [stp] at hs
    have hs0 := pI_e hs
    clear hs
    obtain ⟨x1, st2, rfl, hs⟩ := hs0
    exact lv_ineg hx hb hd (hs _ _ _ _ _ hW hS hL hc hsl)
  case i2l  =>
    simp only [okR, Bool.and_eq_true, beq_iff_eq, decide_eq_true_eq] at ho
    subst ho
    rw [Nat.add_sub_cancel_left] at hd
    dsimp only [stp] at hs
    have hs0 := pI_e hs
    clear hs
    obtain ⟨x1, st2, rfl, hs⟩ := hs0
    exact lv_i2l hx hb hd rfl (hs _ _ _ _ _ hW hS hL hc hsl)
  case l2i  =>
    simp only [okR, Bool.and_eq_true, beq_iff_eq, decide_eq_true_eq] at ho
    subst ho
    rw [Nat.add_sub_cancel_left] at hd
    dsimp only [stp] at hs
    have hs0 := pL_e hs
    clear hs
    obtain ⟨x1, st2, rfl, hs⟩ := hs0
    exact lv_l2i hx hb hd rfl (hs _ _ _ _ _ hW hS hL hc hsl)
  case i2b  =>
    simp only [okR, Bool.and_eq_true, beq_iff_eq, decide_eq_true_eq] at ho
    subst ho
    rw [Nat.add_sub_cancel_left] at hd
    dsimp only [stp] at hs
    have hs0 := pI_e hs
    clear hs
    obtain ⟨x1, st2, rfl, hs⟩ := hs0
    exact lv_i2b hx hb hd rfl (hs _ _ _ _ _ hW hS hL hc hsl)
  case i2s  =>
    simp only [okR, Bool.and_eq_true, beq_iff_eq, decide_eq_true_eq] at ho
    subst ho
    rw [Nat.add_sub_cancel_left] at hd
    dsimp only [stp] at hs
    have hs0 := pI_e hs
    clear hs
    obtain ⟨x1, st2, rfl, hs⟩ := hs0
    exact lv_i2s hx hb hd rfl (hs _ _ _ _ _ hW hS hL hc hsl)
  case i2c  =>
    simp only [okR, Bool.and_eq_true, beq_iff_eq, decide_eq_true_eq] at ho
    subst ho
    rw [Nat.add_sub_cancel_left] at hd
    dsimp only [stp] at hs
    have hs0 := pI_e hs
    clear hs
    obtain ⟨x1, st2, rfl, hs⟩ := hs0
    exact lv_i2c hx hb hd rfl (hs _ _ _ _ _ hW hS hL hc hsl)
  case land  =>
    simp only [okR, Bool.and_eq_true, beq_iff_eq, decide_eq_true_eq] at ho
    subst ho
    rw [Nat.add_sub_cancel_left] at hd
    dsimp only [stp] at hs
    have hs0 := pL_e hs
    clear hs
    obtain ⟨x2, st', rfl, hs⟩ := hs0
    have hs0 := pL_e hs
    clear hs
    obtain ⟨x1, st2, rfl, hs⟩ := hs0
    exact lv_land hx hb hd (hs _ _ _ _ _ hW hS hL hc hsl)
  case lor  =>
    simp only [okR, Bool.and_eq_true, beq_iff_eq, decide_eq_true_eq] at ho
    subst ho
    rw [Nat.add_sub_cancel_left] at hd
    dsimp only [stp] at hs
    have hs0 := pL_e hs
    clear hs
    obtain ⟨x2, st', rfl, hs⟩ := hs0
    have hs0 := pL_e hs
    clear hs
    obtain ⟨x1, st2, rfl, hs⟩ := hs0
    exact lv_lor hx hb hd (hs _ _ _ _ _ hW hS hL hc hsl)
  case lshl  =>
    simp only [okR, Bool.and_eq_true, beq_iff_eq, decide_eq_true_eq] at ho
    subst ho
    rw [Nat.add_sub_cancel_left] at hd
    dsimp only [stp] at hs
    have hs0 := pI_e hs
    clear hs
    obtain ⟨x2, st', rfl, hs⟩ := hs0
    have hs0 := pL_e hs
    clear hs
    obtain ⟨x1, st2, rfl, hs⟩ := hs0
    exact lv_lshl hx hb hd rfl (hs _ _ _ _ _ hW hS hL hc hsl)
  case lshr  =>
    simp only [okR, Bool.and_eq_true, beq_iff_eq, decide_eq_true_eq] at ho
    subst ho
    rw [Nat.add_sub_cancel_left] at hd
    dsimp only [stp] at hs
    have hs0 := pI_e hs
    clear hs
    obtain ⟨x2, st', rfl, hs⟩ := hs0
    have hs0 := pL_e hs
    clear hs
    obtain ⟨x1, st2, rfl, hs⟩ := hs0
    exact lv_lshr hx hb hd rfl (hs _ _ _ _ _ hW hS hL hc hsl)
  case lushr  =>
    simp only [okR, Bool.and_eq_true, beq_iff_eq, decide_eq_true_eq] at ho
    subst ho
    rw [Nat.add_sub_cancel_left] at hd
    dsimp only [stp] at hs
    have hs0 := pI_e hs
    clear hs
    obtain ⟨x2, st', rfl, hs⟩ := hs0
    have hs0 := pL_e hs
    clear hs
    obtain ⟨x1, st2, rfl, hs⟩ := hs0
    exact lv_lushr hx hb hd rfl (hs _ _ _ _ _ hW hS hL hc hsl)
  case dup  =>
    simp only [okR, Bool.and_eq_true, beq_iff_eq, decide_eq_true_eq] at ho
    subst ho
    rw [Nat.add_sub_cancel_left] at hd
    dsimp only [stp] at hs
    have hs0 := pV_e hs
    clear hs
    obtain ⟨u, st', rfl, hu, hs⟩ := hs0
    exact lv_dup hx hb hd (c1V_e hu) (hs _ _ _ _ _ hW hS hL hc hsl)
  case pop  =>
    simp only [okR, Bool.and_eq_true, beq_iff_eq, decide_eq_true_eq] at ho
    subst ho
    rw [Nat.add_sub_cancel_left] at hd
    dsimp only [stp] at hs
    have hs0 := pV_e hs
    clear hs
    obtain ⟨u, st', rfl, hu, hs⟩ := hs0
    exact lv_pop hx hb hd (c1V_e hu) (hs _ _ _ _ _ hW hS hL hc hsl)
  case dup2  =>
    simp only [okR, Bool.and_eq_true, beq_iff_eq, decide_eq_true_eq] at ho
    subst ho
    rw [Nat.add_sub_cancel_left] at hd
    dsimp only [stp] at hs
    have hs0 := pV_e hs
    clear hs
    obtain ⟨u, st', rfl, hu, hs⟩ := hs0
    have hs0 := pV_e hs
    clear hs
    obtain ⟨w, st2, rfl, hw, hs⟩ := hs0
    exact lv_dup2_11 hx hb hd (c1V_e hu) (c1V_e hw) (hs _ _ _ _ _ hW hS hL hc hsl)
  case goto o =>
    simp only [okR, Bool.and_eq_true, beq_iff_eq, decide_eq_true_eq] at ho
    obtain ⟨rfl, ht⟩ := ho
    rw [Nat.add_sub_cancel_left] at hd
    dsimp only [stp] at hs
    exact lv_goto hx hb hd ht (hs _ _ _ _ _ hW hS hL hc hsl)
  case ifCond cnd o =>
    simp only [okR, Bool.and_eq_true, beq_iff_eq, decide_eq_true_eq] at ho
    obtain ⟨rfl, ht⟩ := ho
    rw [Nat.add_sub_cancel_left] at hd
    cases cnd
    case eq =>
      dsimp only [stp] at hs
      have hs0 := pI_e hs
      clear hs
      obtain ⟨x1, st2, rfl, hs⟩ := hs0
      exact lv_if_eq hx hb hd ht (fun q => by rw [if_pos q] at hs; exact hs _ _ _ _ _ hW hS hL hc hsl) (fun q => by rw [if_neg q] at hs; exact hs _ _ _ _ _ hW hS hL hc hsl)
    case ne =>
      dsimp only [stp] at hs
      have hs0 := pI_e hs
      clear hs
      obtain ⟨x1, st2, rfl, hs⟩ := hs0
      exact lv_if_ne hx hb hd ht (fun q => by rw [if_neg q] at hs; exact hs _ _ _ _ _ hW hS hL hc hsl) (fun q => by rw [if_pos q] at hs; exact hs _ _ _ _ _ hW hS hL hc hsl)
    case lt =>
      dsimp only [stp] at hs
      have hs0 := pI_e hs
      clear hs
      obtain ⟨x1, st2, rfl, hs⟩ := hs0
      exact lv_if_lt hx hb hd ht (fun q => by rw [if_pos q] at hs; exact hs _ _ _ _ _ hW hS hL hc hsl) (fun q => by rw [if_neg q] at hs; exact hs _ _ _ _ _ hW hS hL hc hsl)
    case ge =>
      dsimp only [stp] at hs
      have hs0 := pI_e hs
      clear hs
      obtain ⟨x1, st2, rfl, hs⟩ := hs0
      exact lv_if_ge hx hb hd ht (fun q => by rw [if_pos q] at hs; exact hs _ _ _ _ _ hW hS hL hc hsl) (fun q => by rw [if_neg q] at hs; exact hs _ _ _ _ _ hW hS hL hc hsl)
    case gt =>
      dsimp only [stp] at hs
      have hs0 := pI_e hs
      clear hs
      obtain ⟨x1, st2, rfl, hs⟩ := hs0
      exact lv_if_gt hx hb hd ht (fun q => by rw [if_pos q] at hs; exact hs _ _ _ _ _ hW hS hL hc hsl) (fun q => by rw [if_neg q] at hs; exact hs _ _ _ _ _ hW hS hL hc hsl)
    case le =>
      dsimp only [stp] at hs
      have hs0 := pI_e hs
      clear hs
      obtain ⟨x1, st2, rfl, hs⟩ := hs0
      exact lv_if_le hx hb hd ht (fun q => by rw [if_pos q] at hs; exact hs _ _ _ _ _ hW hS hL hc hsl) (fun q => by rw [if_neg q] at hs; exact hs _ _ _ _ _ hW hS hL hc hsl)
  case if_icmp cnd o =>
    simp only [okR, Bool.and_eq_true, beq_iff_eq, decide_eq_true_eq] at ho
    obtain ⟨rfl, ht⟩ := ho
    rw [Nat.add_sub_cancel_left] at hd
    cases cnd
    case eq =>
      dsimp only [stp] at hs
      have hs0 := pI_e hs
      clear hs
      obtain ⟨x2, st', rfl, hs⟩ := hs0
      have hs0 := pI_e hs
      clear hs
      obtain ⟨x1, st2, rfl, hs⟩ := hs0
      exact lv_icmp_eq hx hb hd ht (fun q => by rw [if_pos q] at hs; exact hs _ _ _ _ _ hW hS hL hc hsl) (fun q => by rw [if_neg q] at hs; exact hs _ _ _ _ _ hW hS hL hc hsl)
    case ne =>
      dsimp only [stp] at hs
      have hs0 := pI_e hs
      clear hs
      obtain ⟨x2, st', rfl, hs⟩ := hs0
      have hs0 := pI_e hs
      clear hs
      obtain ⟨x1, st2, rfl, hs⟩ := hs0
      exact lv_icmp_ne hx hb hd ht (fun q => by rw [if_neg q] at hs; exact hs _ _ _ _ _ hW hS hL hc hsl) (fun q => by rw [if_pos q] at hs; exact hs _ _ _ _ _ hW hS hL hc hsl)
    case lt =>
      dsimp only [stp] at hs
      have hs0 := pI_e hs
      clear hs
      obtain ⟨x2, st', rfl, hs⟩ := hs0
      have hs0 := pI_e hs
      clear hs
      obtain ⟨x1, st2, rfl, hs⟩ := hs0
      exact lv_icmp_lt hx hb hd ht (fun q => by rw [if_pos q] at hs; exact hs _ _ _ _ _ hW hS hL hc hsl) (fun q => by rw [if_neg q] at hs; exact hs _ _ _ _ _ hW hS hL hc hsl)
    case ge =>
      dsimp only [stp] at hs
      have hs0 := pI_e hs
      clear hs
      obtain ⟨x2, st', rfl, hs⟩ := hs0
      have hs0 := pI_e hs
      clear hs
      obtain ⟨x1, st2, rfl, hs⟩ := hs0
      exact lv_icmp_ge hx hb hd ht (fun q => by rw [if_pos q] at hs; exact hs _ _ _ _ _ hW hS hL hc hsl) (fun q => by rw [if_neg q] at hs; exact hs _ _ _ _ _ hW hS hL hc hsl)
    case gt =>
      dsimp only [stp] at hs
      have hs0 := pI_e hs
      clear hs
      obtain ⟨x2, st', rfl, hs⟩ := hs0
      have hs0 := pI_e hs
      clear hs
      obtain ⟨x1, st2, rfl, hs⟩ := hs0
      exact lv_icmp_gt hx hb hd ht (fun q => by rw [if_pos q] at hs; exact hs _ _ _ _ _ hW hS hL hc hsl) (fun q => by rw [if_neg q] at hs; exact hs _ _ _ _ _ hW hS hL hc hsl)
    case le =>
      dsimp only [stp] at hs
      have hs0 := pI_e hs
      clear hs
      obtain ⟨x2, st', rfl, hs⟩ := hs0
      have hs0 := pI_e hs
      clear hs
      obtain ⟨x1, st2, rfl, hs⟩ := hs0
      exact lv_icmp_le hx hb hd ht (fun q => by rw [if_pos q] at hs; exact hs _ _ _ _ _ hW hS hL hc hsl) (fun q => by rw [if_neg q] at hs; exact hs _ _ _ _ _ hW hS hL hc hsl)
  case ifnull o =>
    simp only [okR, Bool.and_eq_true, beq_iff_eq, decide_eq_true_eq] at ho
    obtain ⟨rfl, ht⟩ := ho
    rw [Nat.add_sub_cancel_left] at hd
    dsimp only [stp] at hs
    split at hs
    · exact lv_ifnullN hx hb hd ht (hs _ _ _ _ _ hW hS hL hc hsl)
    · exact lv_ifnull hx hb hd (hs _ _ _ _ _ hW hS hL hc hsl)
    · exact hs.elim
  case ifnonnull o =>
    simp only [okR, Bool.and_eq_true, beq_iff_eq, decide_eq_true_eq] at ho
    obtain ⟨rfl, ht⟩ := ho
    rw [Nat.add_sub_cancel_left] at hd
    dsimp only [stp] at hs
    split at hs
    · exact lv_ifnonnullN hx hb hd (hs _ _ _ _ _ hW hS hL hc hsl)
    · exact lv_ifnonnull hx hb hd ht (hs _ _ _ _ _ hW hS hL hc hsl)
    · exact hs.elim
  case tableswitch df lo hi offs =>
    dsimp only [stp] at hs
    simp only [okR, Bool.and_eq_true] at ho
    have hs0 := pI_e hs
    clear hs
    obtain ⟨x1, st2, rfl, hs⟩ := hs0
    by_cases hq : x1.toInt < lo ∨ hi < x1.toInt
    · rw [if_pos hq] at hs
      exact lv_tableOut hx hb hd hq (tgO_eq ho.1) (hs _ _ _ _ _ hW hS hL hc hsl)
    · rw [if_neg hq] at hs
      split at hs
      · rename_i w hw
        have h9 : w ∈ offs.toList := List.mem_of_getElem? (by rw [Array.getElem?_toList]; exact hw)
        exact lv_tableIn hx hb hd (fun q => hq (Or.inl q)) (fun q => hq (Or.inr q)) hw (tgO_eq (List.all_eq_true.mp ho.2 w h9)) (hs _ _ _ _ _ hW hS hL hc hsl)
      · exact hs.elim
  case lookupswitch df ps =>
    dsimp only [stp] at hs
    simp only [okR, Bool.and_eq_true] at ho
    have hs0 := pI_e hs
    clear hs
    obtain ⟨x1, st2, rfl, hs⟩ := hs0
    have h9 : swO pc (Op.lookupswitch.offset ps.toList df x1.toInt) = true := by
      rcases lkO ps.toList df x1.toInt with e | ⟨q, hq, e⟩ <;> rw [e]
      · exact ho.1.2
      · exact List.all_eq_true.mp ho.2 q hq
    exact lv_lookup hx hb hd ho.1.1 rfl (tgO_eq h9) (hs _ _ _ _ _ hW hS hL hc hsl)
  case getfield k =>
    dsimp only [stp] at hs
    simp only [okR, Bool.and_eq_true, beq_iff_eq] at ho
    obtain ⟨rfl, hv⟩ := ho
    rw [Nat.add_sub_cancel_left] at hd
    have hs0 := pR_e hs
    clear hs
    obtain ⟨q, st2, rfl, hs⟩ := hs0
    have hs0 := cO_e hs
    clear hs
    obtain ⟨fs, hcell, hs⟩ := hs0
    have hs0 := fO_e hs
    clear hs
    obtain ⟨u, hu, hs⟩ := hs0
    by_cases ha : a = 60
    · subst ha
      rw [if_pos rfl, decide_eq_true_eq] at hv
      by_cases hq : q < 32
      · obtain ⟨w1, w2⟩ := SF_w (mCn y, k, b) hv
        have h9 := (hRO.2.1 q fs (smC_lo hq hcell)).2 b w2
        rw [List.getD_eq_getElem?_getD, hu] at h9
        show W p l e R s m args below meth c H locs cells slots Z (F0 m pc ls (.ref (plG G q) :: st2.map (cv G)))
        rw [plG_lo hq]
        exact vk_getf hx hb h9 hS hown (hts _ w1) (fun x hx => hx) hd (hs _ _ _ _ _ hW hS hL hc hsl)
      · have h8 := smC_hi (Nat.le_of_not_lt hq) hcell
        have hl := wsO_some (G := G) h8
        rw [ce_obj G fs (by decide)] at hl
        obtain ⟨r, h1, -⟩ := hW.2 _ _ hl
        have h7 : 60 < vwCl.length := (List.getElem?_eq_some_iff.mp h1).1
        exact absurd h7 (by decide)
    · rw [if_neg ha, decide_eq_true_eq] at hv
      obtain ⟨w1, w2, w3⟩ := FL_w (mCn y, k, a, b) hv
      have hq : 32 ≤ q := by
        refine Nat.le_of_not_lt (fun hq => ?_)
        exact ha (roL_inr (smC_lo hq hcell))
      have h8 := smC_hi hq hcell
      have hl := wsO_some (G := G) h8
      rw [ce_obj G fs (by dsimp only at w3; omega)] at hl
      show W p l e R s m args below meth c H locs cells slots Z (F0 m pc ls (.ref (plG G q) :: st2.map (cv G)))
      rw [plG_hi G hq]
      exact va_get hx hb hts (ws_in w3) hown hK hW.2 _ hl (vw_at w3) b w2 (hts _ w1) (fun x hx => hx) (by rw [List.getElem?_map, hu]; rfl) hd (hs _ _ _ _ _ hW hS hL hc hsl)
  case putfield k =>
    dsimp only [stp] at hs
    simp only [okR, Bool.and_eq_true, beq_iff_eq, decide_eq_true_eq] at ho
    obtain ⟨⟨rfl, hv⟩, hfi⟩ := ho
    rw [Nat.add_sub_cancel_left] at hd
    have hs0 := pV_e hs
    clear hs
    obtain ⟨u, st1, rfl, hu, hs⟩ := hs0
    have hs0 := pR_e hs
    clear hs
    obtain ⟨q, st2, rfl, hq, hs⟩ := hs0
    have hs0 := cO_e hs
    clear hs
    obtain ⟨fs, hcell, hlen, hfv, hs⟩ := hs0
    obtain ⟨w1, w2, w3⟩ := FL_w (mCn y, k, a, b) hv
    obtain ⟨n1, n2⟩ := fitV_e (G := G) hfv
    show W p l e R s m args below meth c H locs cells slots Z (F0 m pc ls (cv G u :: .ref (plG G q) :: st2.map (cv G)))
    rw [plG_hi G hq]
    exact sm_put hx hb hts hown hK hW hS hin2 w3 w2 (smC_hi hq hcell) hlen w1 (fun q9 => by
      rw [if_pos q9, Bool.and_eq_true, decide_eq_true_eq, decide_eq_true_eq] at hfi
      exact hfi) n1 n2 hd (fun H1 locs1 hW1 hS1 => hs _ _ _ _ _ hW1 hS1 hL hc hsl)
  case getstatic k =>
    simp only [okR, Bool.and_eq_true, beq_iff_eq, decide_eq_true_eq] at ho
    obtain ⟨rfl, hv⟩ := ho
    rw [Nat.add_sub_cancel_left] at hd
    dsimp only [stp] at hs
    obtain ⟨w1, w2⟩ := GS_w (mCn y, k, a) hv
    have h9 := hRO.2.2.1 a w2
    have h8 := va_gets (Q := Z) (rest := st.map (cv G)) (ls := ls) (l := l) (e := e) (R := R) (below := below) (meth := meth) (cells := cells) (slots := slots) hx hb h9 hS hown (hts _ w1) (fun x hx => hx) hd
    exact h8 (hs _ _ _ _ _ hW hS hL hc hsl)
  case iaload  =>
    simp only [okR, Bool.and_eq_true, beq_iff_eq, decide_eq_true_eq] at ho
    subst ho
    rw [Nat.add_sub_cancel_left] at hd
    dsimp only [stp] at hs
    have hs0 := pI_e hs
    clear hs
    obtain ⟨i, st1, rfl, hs⟩ := hs0
    have hs0 := pR_e hs
    clear hs
    obtain ⟨q, st2, rfl, hs⟩ := hs0
    have hs0 := cA_e hs
    clear hs
    obtain ⟨k, f, hcell, rfl, hin, hs⟩ := hs0
    show W p l e R s m args below meth c H locs cells slots Z (F0 m pc ls (.int i :: .ref (plG G q) :: st2.map (cv G)))
    by_cases hq : q < 32
    · rw [plG_lo hq]
      have h9 := hRO.1 q 0 f (smC_lo hq hcell)
      exact va_ti hx hb h9 hS hin rfl hd (hs _ _ _ _ _ hW hS hL hc hsl)
    · rw [plG_hi G (Nat.le_of_not_lt hq)]
      exact va_iald hx hb hK hW.2 _ 0 (wsO_some (smC_hi (Nat.le_of_not_lt hq) hcell)) rfl hin hd (hs _ _ _ _ _ hW hS hL hc hsl)
  case baload  =>
    simp only [okR, Bool.and_eq_true, beq_iff_eq, decide_eq_true_eq] at ho
    subst ho
    rw [Nat.add_sub_cancel_left] at hd
    dsimp only [stp] at hs
    have hs0 := pI_e hs
    clear hs
    obtain ⟨i, st1, rfl, hs⟩ := hs0
    have hs0 := pR_e hs
    clear hs
    obtain ⟨q, st2, rfl, hs⟩ := hs0
    have hs0 := cA_e hs
    clear hs
    obtain ⟨k, f, hcell, hk, hin, hs⟩ := hs0
    show W p l e R s m args below meth c H locs cells slots Z (F0 m pc ls (.int i :: .ref (plG G q) :: st2.map (cv G)))
    rcases hk with ⟨hq, rfl⟩ | ⟨hq, rfl⟩
    · rw [plG_hi G hq]
      exact va_zald hx hb hK hW.2 _ 1 (wsO_some (smC_hi hq hcell)) rfl hin hd (hs _ _ _ _ _ hW hS hL hc hsl)
    · rw [plG_lo hq]
      have h9 := hRO.1 q 3 f (smC_lo hq hcell)
      exact va_tb hx hb h9 hS hin rfl hd (hs _ _ _ _ _ hW hS hL hc hsl)
  case aaload  =>
    simp only [okR, Bool.and_eq_true, beq_iff_eq, decide_eq_true_eq] at ho
    subst ho
    rw [Nat.add_sub_cancel_left] at hd
    dsimp only [stp] at hs
    have hs0 := pI_e hs
    clear hs
    obtain ⟨i, st1, rfl, hs⟩ := hs0
    have hs0 := pR_e hs
    clear hs
    obtain ⟨q, st2, rfl, hq, hs⟩ := hs0
    have hs0 := cO_e hs
    clear hs
    obtain ⟨fs, hcell, hin, hs⟩ := hs0
    have hs0 := fO_e hs
    clear hs
    obtain ⟨u, hu, u1, u2, hs⟩ := hs0
    show W p l e R s m args below meth c H locs cells slots Z (F0 m pc ls (.int i :: .ref (plG G q) :: st2.map (cv G)))
    rw [plG_hi G hq]
    have hl := wsO_some (G := G) (smC_hi hq hcell)
    rw [ce_arr] at hl
    refine va_aldq hx hb hK hW.2 _ 2 hl rfl hin hd ?_
    rw [List.getD_eq_getElem?_getD, hu]
    show W p l e R s m args below meth c H locs cells slots Z (F0 m (pc + 1) ls (va_rf (rfo G u) :: st2.map (cv G)))
    rw [rfo_e u1 u2]
    exact hs _ _ _ _ _ hW hS hL hc hsl
  case iastore  =>
    simp only [okR, Bool.and_eq_true, beq_iff_eq, decide_eq_true_eq] at ho
    subst ho
    rw [Nat.add_sub_cancel_left] at hd
    dsimp only [stp] at hs
    have hs0 := pI_e hs
    clear hs
    obtain ⟨x, st0, rfl, hs⟩ := hs0
    have hs0 := pI_e hs
    clear hs
    obtain ⟨i, st1, rfl, hs⟩ := hs0
    have hs0 := pR_e hs
    clear hs
    obtain ⟨q, st2, rfl, hq, hs⟩ := hs0
    have hs0 := cA_e hs
    clear hs
    obtain ⟨k, f, hcell, rfl, hin, hs⟩ := hs0
    show W p l e R s m args below meth c H locs cells slots Z (F0 m pc ls (.int x :: .int i :: .ref (plG G q) :: st2.map (cv G)))
    rw [plG_hi G hq]
    exact sm_iast hx hb hK hW hS (smC_hi hq hcell) hin hd (fun H1 locs1 hW1 hS1 => hs _ _ _ _ _ hW1 hS1 hL hc hsl)
  case bastore  =>
    simp only [okR, Bool.and_eq_true, beq_iff_eq, decide_eq_true_eq] at ho
    subst ho
    rw [Nat.add_sub_cancel_left] at hd
    dsimp only [stp] at hs
    have hs0 := pI_e hs
    clear hs
    obtain ⟨x, st0, rfl, hs⟩ := hs0
    have hs0 := pI_e hs
    clear hs
    obtain ⟨i, st1, rfl, hs⟩ := hs0
    have hs0 := pR_e hs
    clear hs
    obtain ⟨q, st2, rfl, hq, hxx, hs⟩ := hs0
    have hs0 := cA_e hs
    clear hs
    obtain ⟨k, f, hcell, rfl, hin, hs⟩ := hs0
    show W p l e R s m args below meth c H locs cells slots Z (F0 m pc ls (.int x :: .int i :: .ref (plG G q) :: st2.map (cv G)))
    rw [plG_hi G hq]
    exact sm_zast hx hb hK hW hS hxx (smC_hi hq hcell) hin hd (fun H1 locs1 hW1 hS1 => hs _ _ _ _ _ hW1 hS1 hL hc hsl)
  case aastore  =>
    simp only [okR, Bool.and_eq_true, beq_iff_eq, decide_eq_true_eq] at ho
    subst ho
    rw [Nat.add_sub_cancel_left] at hd
    dsimp only [stp] at hs
    have hs0 := pR_e hs
    clear hs
    obtain ⟨w, st0, rfl, hs⟩ := hs0
    have hs0 := pI_e hs
    clear hs
    obtain ⟨i, st1, rfl, hs⟩ := hs0
    have hs0 := pR_e hs
    clear hs
    obtain ⟨q, st2, rfl, hq, hw, hs⟩ := hs0
    have hs0 := cO_e hs
    clear hs
    obtain ⟨gs, hcellw, hs⟩ := hs0
    have hs0 := cO_e hs
    clear hs
    obtain ⟨fs, hcell, hin, hs⟩ := hs0
    show W p l e R s m args below meth c H locs cells slots Z (F0 m pc ls (.ref (plG G w) :: .int i :: .ref (plG G q) :: st2.map (cv G)))
    rw [plG_hi G hq]
    exact sm_astq hx hb hK hW hS hw (smC_hi hq hcell) (smC_hi hw hcellw) hin hd (fun H1 locs1 hW1 hS1 => hs _ _ _ _ _ hW1 hS1 hL hc hsl)
  case arraylength  =>
    simp only [okR, Bool.and_eq_true, beq_iff_eq, decide_eq_true_eq] at ho
    subst ho
    rw [Nat.add_sub_cancel_left] at hd
    dsimp only [stp] at hs
    have hs0 := pR_e hs
    clear hs
    obtain ⟨q, st2, rfl, hs⟩ := hs0
    have hs0 := cA_e hs
    clear hs
    obtain ⟨k, f, hcell, hk, hs⟩ := hs0
    show W p l e R s m args below meth c H locs cells slots Z (F0 m pc ls (.ref (plG G q) :: st2.map (cv G)))
    by_cases hq : q < 32
    · rw [plG_lo hq]
      have h9 := hRO.1 q k f (smC_lo hq hcell)
      exact va_tlen hx hb h9 hS rfl hd (hs _ _ _ _ _ hW hS hL hc hsl)
    · rw [plG_hi G (Nat.le_of_not_lt hq)]
      rcases hk with rfl | rfl | ⟨hk, -⟩
      · exact va_alen hx hb hK hW.2 _ 0 (wsO_some (smC_hi (Nat.le_of_not_lt hq) hcell)) rfl rfl hd (hs _ _ _ _ _ hW hS hL hc hsl)
      · exact va_alen hx hb hK hW.2 _ 1 (wsO_some (smC_hi (Nat.le_of_not_lt hq) hcell)) rfl rfl hd (hs _ _ _ _ _ hW hS hL hc hsl)
      · exact absurd hk hq
  case newarray t =>
    dsimp only [stp] at hs
    simp only [okR, Bool.and_eq_true, Bool.or_eq_true, beq_iff_eq, decide_eq_true_eq] at ho
    obtain ⟨rfl, ht⟩ := ho
    rw [Nat.add_sub_cancel_left] at hd
    have hs0 := pI_e hs
    clear hs
    obtain ⟨n, st2, rfl, hn, hN, hm1, hm2, hs⟩ := hs0
    refine sm_newa hx hb hts hK hW hS ht hn hN (by omega) (by omega) hd (fun H1 hW1 hS1 => ?_)
    have h9 := hs _ _ ls _ _ hW1 hS1 hL (show (cells + 1) + (mc - 1) = R.cells by omega) (show (slots + n.toNatClampNeg) + (ms - n.toNatClampNeg) = R.slots by omega)
    rw [← plG_new G h]
    exact h9
  case anewarray k =>
    simp only [okR, Bool.and_eq_true, beq_iff_eq, decide_eq_true_eq] at ho
    obtain ⟨rfl, hv⟩ := ho
    rw [Nat.add_sub_cancel_left] at hd
    dsimp only [stp] at hs
    have hs0 := pI_e hs
    clear hs
    obtain ⟨n, st2, rfl, hn, hN, hm1, hm2, hs⟩ := hs0
    refine sm_newq hx hb hown (hts _ (CL_w (mCn y, k, 3) hv)) hRO.2.2.2.2.2.1 hK hW hS hn hN (by omega) (by omega) hd (fun H1 hW1 hS1 => ?_)
    have h9 := hs _ _ ls _ _ hW1 hS1 hL (show (cells + 1) + (mc - 1) = R.cells by omega) (show (slots + n.toNatClampNeg) + (ms - n.toNatClampNeg) = R.slots by omega)
    rw [← plG_new G h]
    exact h9
  case new k =>
    dsimp only [stp] at hs
    simp only [okR, Bool.and_eq_true, beq_iff_eq, decide_eq_true_eq] at ho
    obtain ⟨⟨⟨rfl, hv⟩, ha8⟩, hin⟩ := ho
    rw [Nat.add_sub_cancel_left] at hd
    obtain ⟨z, hz1, hz2⟩ := List.any_eq_true.mp hin
    simp only [Bool.and_eq_true, beq_iff_eq] at hz2
    obtain ⟨z1, z2⟩ := hz2
    obtain ⟨z0, zi, zb⟩ := z
    dsimp only at z1 z2
    subst z1
    subst z2
    obtain ⟨w1, w2, w3⟩ := in_w ⟨zi, hz1⟩
    subst w3
    obtain ⟨hm1, hm2, hs⟩ := hs
    have hcl : Cond.classLink (clsN (mCn y)) k (clsN z0) ∈ tblG := by
      have h9 := CL_w (mCn y, k, z0) hv
      dsimp only at h9
      unfold tgN at h9
      rwa [if_neg (by omega)] at h9
    refine sm_new hx hb hts ha8 hown (hts _ hcl) (hts _ w1) (hts _ w2) hK hW hS (by omega) (by omega) hd (fun H1 hW1 hS1 => ?_)
    have h9 := hs _ _ ls _ _ hW1 hS1 hL (show (cells + 1) + (mc - 1) = R.cells by omega) (show (slots + nfT z0) + (ms - nfT z0) = R.slots by omega)
    rw [← plG_new G h]
    exact h9
  case checkcast k =>
    simp only [okR, Bool.and_eq_true, beq_iff_eq, decide_eq_true_eq] at ho
    obtain ⟨rfl, hv⟩ := ho
    rw [Nat.add_sub_cancel_left] at hd
    dsimp only [stp] at hs
    have hs0 := pR_e hs
    clear hs
    obtain ⟨q, st2, rfl, hq, hs⟩ := hs0
    have hs0 := cA_e hs
    clear hs
    obtain ⟨k1, f, hcell, rfl, hs⟩ := hs0
    show W p l e R s m args below meth c H locs cells slots Z (F0 m pc ls (.ref (plG G q) :: st2.map (cv G)))
    have h9 := hs _ _ ls _ _ hW hS hL hc hsl
    have h8 : W p l e R s m args below meth c H locs cells slots Z (F0 m (pc + 3) ls (.ref (plG G q) :: st2.map (cv G))) := h9
    rw [plG_hi G hq] at h8 ⊢
    exact va_castA hx hb hown (hts _ (CL_w (mCn y, k, 90) hv)) hW.2 _ (wsO_some (smC_hi hq hcell)) (va_nm_int (hK.2 0 _ rfl).2) hd h8
  case invokestatic k =>
    simp only [okR, Bool.and_eq_true, beq_iff_eq] at ho
    obtain ⟨rfl, ho⟩ := ho
    rw [Nat.add_sub_cancel_left] at hd
    split at ho
    · simp only [Bool.and_eq_true, decide_eq_true_eq] at ho
      obtain ⟨⟨⟨o1, o2⟩, o3⟩, o4⟩ := ho
      exact W_static E hcall hW hS hL hc hsl hd o4 o2 o3 (Or.inl o1) hs
    · simp only [Bool.and_eq_true, decide_eq_true_eq] at ho
      obtain ⟨⟨⟨o1, o2⟩, o3⟩, o4⟩ := ho
      exact W_static E hcall hW hS hL hc hsl hd o4 o2 o3 (Or.inr o1) hs
    · rw [decide_eq_true_eq] at ho
      have hs0 := pI_e hs
      clear hs
      obtain ⟨x2, st', rfl, hs⟩ := hs0
      have hs0 := pI_e hs
      clear hs
      obtain ⟨x1, st2, rfl, hcat, hs⟩ := hs0
      exact va_mmax hx hb hlsz.symm hown (hts _ (MS_w (mCn y, k, 2) ho)) (hts _ tw_max.1) (hts _ tw_max.2.1) (hts _ tw_max.2.2) (by omega) (by rw [cat_map]; omega) (by omega) (by omega) hd (hs _ _ _ _ _ hW hS hL hc hsl)
    · rw [decide_eq_true_eq] at ho
      have hs0 := pI_e hs
      clear hs
      obtain ⟨x2, st', rfl, hs⟩ := hs0
      have hs0 := pI_e hs
      clear hs
      obtain ⟨x1, st2, rfl, hcat, hs⟩ := hs0
      exact va_mmin hx hb hlsz.symm hown (hts _ (MS_w (mCn y, k, 3) ho)) (hts _ tw_min.1) (hts _ tw_max.2.1) (hts _ tw_min.2) (by omega) (by rw [cat_map]; omega) (by omega) (by omega) hd (hs _ _ _ _ _ hW hS hL hc hsl)
    · rw [decide_eq_true_eq] at ho
      have hs0 := pI_e hs
      clear hs
      obtain ⟨n, s1, rfl, hs⟩ := hs0
      have hs0 := pI_e hs
      clear hs
      obtain ⟨dp, s2, rfl, hs⟩ := hs0
      have hs0 := pR_e hs
      clear hs
      obtain ⟨q2, s3, rfl, hs⟩ := hs0
      have hs0 := pI_e hs
      clear hs
      obtain ⟨sp, s4, rfl, hs⟩ := hs0
      have hs0 := pR_e hs
      clear hs
      obtain ⟨q1, s5, rfl, hq1, hq2, hcat, hs⟩ := hs0
      have hs0 := cA_e hs
      clear hs
      obtain ⟨k1, f, hc1, hs⟩ := hs0
      have hs0 := cA_e hs
      clear hs
      obtain ⟨k2, g, hc2, rfl, hk, h1, h2, h3, h4, h5, h6, hs⟩ := hs0
      show W p l e R s m args below meth c H locs cells slots Z (F0 m pc ls (.int n :: .int dp :: .ref (plG G q2) :: .int sp :: .ref (plG G q1) :: s5.map (cv G)))
      rw [plG_hi G hq1, plG_hi G hq2]
      have hnf : nativeFrameWords "java/lang/System" "arraycopy" 5 = 7 := by decide +kernel
      exact sm_copy hx hb hlsz.symm hown (hts _ (MS_w (mCn y, k, 4) ho)) (hts _ tw_copy.1) (hts _ tw_copy.2.1) (hts _ tw_copy.2.2) hK hW hS hk (smC_hi hq1 hc1) (smC_hi hq2 hc2) h1 h2 h3 h4 h5 h6 (by omega) (by rw [cat_map, hnf]; omega) hd (fun H1 locs1 hW1 hS1 => hs _ _ _ _ _ hW1 hS1 hL hc hsl)
    · cases ho
  case invokevirtual k =>
    simp only [okR, Bool.and_eq_true, beq_iff_eq] at ho
    obtain ⟨rfl, ho⟩ := ho
    rw [Nat.add_sub_cancel_left] at hd
    split at ho
    · simp only [Bool.and_eq_true, decide_eq_true_eq] at ho
      obtain ⟨⟨⟨o1, o2⟩, o3⟩, o4⟩ := ho
      exact W_virtual E hcall hW hS hL hc hsl hd o4 o2 o3 o1 (vcn o4 o3) hs
    · rw [decide_eq_true_eq] at ho
      have hs0 := pR_e hs
      clear hs
      obtain ⟨q, st2, rfl, hq, hcat, hs⟩ := hs0
      have hs0 := cA_e hs
      clear hs
      obtain ⟨k1, f, hcell, rfl, hm1, hm2, hs⟩ := hs0
      show W p l e R s m args below meth c H locs cells slots Z (F0 m pc ls (.ref (plG G q) :: st2.map (cv G)))
      rw [plG_hi G hq]
      refine sm_clone hx hb hlsz.symm hown (hts _ (MS_w (mCn y, k, 5) ho)) hts hRO.2.2.2.2.2.2 hK hW hS (smC_hi hq hcell) (by omega) (by rw [cat_map]; omega) (by omega) (by omega) hd (fun H1 hW1 hS1 => ?_)
      have h9 := hs _ _ ls _ _ hW1 hS1 hL (show (cells + 1) + (mc - 1) = R.cells by omega) (show (slots + f.length) + (ms - f.length) = R.slots by omega)
      rw [← plG_new G h]
      exact h9
    · cases ho
  case invokespecial k =>
    simp only [okR, Bool.and_eq_true, beq_iff_eq] at ho
    obtain ⟨rfl, ho⟩ := ho
    rw [Nat.add_sub_cancel_left] at hd
    split at ho
    · simp only [Bool.and_eq_true, decide_eq_true_eq] at ho
      obtain ⟨⟨⟨o1, o2⟩, o3⟩, o4⟩ := ho
      exact W_special E hcall hW hS hL hc hsl hd o4 o2 o3 (Or.inl o1) hs
    · simp only [Bool.and_eq_true, decide_eq_true_eq] at ho
      obtain ⟨⟨⟨o1, o2⟩, o3⟩, o4⟩ := ho
      exact W_special E hcall hW hS hL hc hsl hd o4 o2 o3 (Or.inr o1) hs
    · rw [decide_eq_true_eq] at ho
      have hs0 := pR_e hs
      clear hs
      obtain ⟨q, st2, rfl, hcat, hs⟩ := hs0
      refine W.objInit hx hb hown (hts _ (MS_w (mCn y, k, 12) ho)) (hts _ tw_obj.1) (hts _ tw_obj.2) (a := plG G q) (rest := st2.map (cv G)) rfl hlsz rfl hd (by omega) (by rw [cat_map]; show 2 * 0 + _ + 12 ≤ _; omega) ?_
      exact hs _ _ _ _ _ hW hS hL hc hsl
    · cases ho
  case ireturn  =>
    simp only [okR, Bool.and_eq_true, beq_iff_eq, decide_eq_true_eq] at ho
    subst ho
    rw [Nat.add_sub_cancel_left] at hd
    dsimp only [stp] at hs
    have hs0 := pI_e hs
    clear hs
    obtain ⟨x, st2, rfl, rfl, hs⟩ := hs0
    split at hs
    · exact hret.1 x h H locs cells slots pc ls (Or.inl (by assumption)) hs hW hS (by omega) (by omega) hd
    · exact hret.1 x h H locs cells slots pc ls (Or.inr (Or.inl ⟨by assumption, hs.1⟩)) hs.2 hW hS (by omega) (by omega) hd
    · exact hret.1 x h H locs cells slots pc ls (Or.inr (Or.inr ⟨by assumption, hs.1⟩)) hs.2 hW hS (by omega) (by omega) hd
    · exact hs.elim
  case areturn =>
    simp only [okR, Bool.and_eq_true, beq_iff_eq] at ho
    obtain ⟨rfl, ho⟩ := ho
    rw [Nat.add_sub_cancel_left] at hd
    have hs0 := pV_e hs
    clear hs
    obtain ⟨u, st2, rfl, hu, rfl, hni, hs⟩ := hs0
    refine hret.2.1 u h H locs cells slots pc ls ?_ ?_ hs hW hS (by omega) (by omega) hd
    · split at ho
      · exact Or.inl ⟨_, by assumption⟩
      · exact Or.inr ⟨_, by assumption⟩
      · cases ho
    · cases u with
      | int z => exact absurd rfl (hni z)
      | null => exact Or.inl rfl
      | ref a => exact Or.inr ⟨a, rfl⟩
      | _ => cases hu
  case return_  =>
    simp only [okR, Bool.and_eq_true, beq_iff_eq, decide_eq_true_eq] at ho
    obtain ⟨rfl, hv⟩ := ho
    rw [Nat.add_sub_cancel_left] at hd
    dsimp only [stp] at hs
    obtain ⟨rfl, hs⟩ := hs
    exact hret.2.2 h H locs cells slots pc ls hv hs hW hS (by omega) (by omega) hd
  all_goals exact False.elim hs
end SOUND
end
section
/-! A RUN OF THE SMALL MACHINE IS A CONTRACT -/
set_option maxHeartbeats 1000000 in
theorem ret_met {p : Program} {l : Launch} {e : Env} {R : Room} {s : State} {m : MethodId} {args : Array Value} {below : List Frame} {meth : Method} {c : Code} {G : AG} {y mc ms : Nat} {Q : QT} (hx : p.tables.exec = Jvm.exec) (hb : c.code = mCd y) (hr : meth.sig.returnType = mRt y) (hlocks : meth.locks = false) (hc : R.cells = mc) (hs : R.slots = ms) :
    RetOk p l e R s m args below meth c G y (MQ below (QcM G Q) args s mc ms (AbA G)) Q := by
  subst hc
  subst hs
  refine ⟨fun x h H locs cells slots pc ls hty hq hW hS hc1 hs1 hd => ?_, fun v h H locs cells slots pc ls hty hv hq hW hS hc1 hs1 hd => ?_, fun h H locs cells slots pc ls hty hq hW hS hc1 hs1 hd => ?_⟩
  · refine W.widen (k := R.cells) (n := R.slots) hc1 hs1 ?_
    obtain ⟨ty, h1, h2⟩ : ∃ ty, mRt y = some ty ∧ narrow ty (.int x) = .int x := by
      rcases hty with h1 | ⟨h1, h2⟩ | ⟨h1, h2⟩
      · exact ⟨_, h1, rfl⟩
      · exact ⟨_, h1, nar_b h2⟩
      · refine ⟨_, h1, ?_⟩
        show Value.int x.toInt8.toInt32 = .int x
        congr 1
        obtain ⟨h3, h4⟩ := h2
        have h5 := Int32.le_iff_toInt_le.mp h3
        have h6 := Int32.le_iff_toInt_le.mp h4
        apply Int32.toInt.inj
        rw [Int8.toInt_toInt32, Int32.toInt_toInt8]
        have e1 : (-128 : Int32).toInt = -128 := by decide
        have e2 : (127 : Int32).toInt = 127 := by decide
        rw [e1] at h5
        rw [e2] at h6
        exact Int.bmod_eq_of_le (by omega) (by omega)
    exact W.zret hx hb (by rw [hr, h1]) h2 (fun t ht hWm => ⟨⟨some (.int x), h, rfl, hq, by rw [ht]; exact hW⟩, hS.F ht⟩) hS.2.2 hd hlocks
  · refine W.widen (k := R.cells) (n := R.slots) hc1 hs1 ?_
    obtain ⟨ty, h1, h2⟩ : ∃ ty, mRt y = some ty ∧ ((∃ n, ty = .object n) ∨ ∃ t, ty = .array t) := by
      rcases hty with ⟨n, h1⟩ | ⟨t, h1⟩
      · exact ⟨_, h1, Or.inl ⟨n, rfl⟩⟩
      · exact ⟨_, h1, Or.inr ⟨t, rfl⟩⟩
    have hv' : cv G v = .null ∨ ∃ a, cv G v = .ref a := by
      rcases hv with rfl | ⟨a, rfl⟩
      · exact Or.inl rfl
      · exact Or.inr ⟨_, rfl⟩
    exact W.aret hx hb (by rw [hr, h1]) h2 hv' (fun t ht hWm => ⟨⟨some v, h, rfl, hq, by rw [ht]; exact hW⟩, hS.F ht⟩) hS.2.2 hd hlocks
  · refine W.widen (k := R.cells) (n := R.slots) hc1 hs1 ?_
    exact W.vret hx hb (by rw [hr, hty]) (fun t ht hWm => ⟨⟨none, h, rfl, hq, by rw [ht]; exact hW⟩, hS.F ht⟩) hS.2.2 hd hlocks
set_option maxHeartbeats 1000000 in
theorem WP_met (l : Launch) (G : AG) (xs : List Int32) : ∀ d, CallOk l G xs d (WP xs d) := by
  intro d
  induction d with
  | zero => intro a mc ms as h Q ha q; exact q.elim
  | succ d ih =>
    intro a mc ms as h Q ha q
    obtain ⟨hlen, hgw⟩ := q
    obtain ⟨o1, o2, o3, o4, o5, o6, o7, o8, o9, o10, o11⟩ := okM_e ha
    refine Met.ofW (cc := mCd a) (maxL := mMx a) (ret := mRt a) (ws' := tblG) o11 (by unfold wsM; rfl) ?_
    intro p e s m args below meth c s₁ B hml hv
    obtain ⟨rfl, hW0, hAm⟩ := hv
    have hts : ∀ w ∈ tblG, w.before ((as.map (cv G)).toArray) s = true := fun w hw => atoms_spec (ws := wsM a) B.pre w (List.mem_cons_of_mem _ hw)
    have hown : s.vm.findClass (clsN (mCn a)) = some m.cls := by
      rw [← o5]
      exact findClass_of_methodNamed B.named
    have E : EnvM p (headSpec (wsM a) (rmM (d + 1) mc ms)).room s m ((as.map (cv G)).toArray) meth c G xs a d :=
      ⟨B.exec, B.bytes, hml, hown, hts, hAm, fun q => by rw [(name_of_methodNamed B.named B.method).1]; exact (o8 q).1, by rw [hW0.1]; exact Nat.le_add_right _ _, Nat.le_refl _, Nat.le_refl _⟩
    rw [lg_entry_eq]
    exact hgw (KW p l e (headSpec (wsM a) (rmM (d + 1) mc ms)).room s m ((as.map (cv G)).toArray) below meth c G a (MQ below (QcM G Q) ((as.map (cv G)).toArray) s mc ms (AbA G)))
      (fun pc L st h mc1 ms1 r hr hs => stp_W E ih (ret_met B.exec B.bytes B.returns B.notSynchronized rfl rfl) hr hs)
      [] s.heap _ 0 0 hW0 va_S.rf (lvO_entry G hlen) (Nat.zero_add _) (Nat.zero_add _)
end
section
/-! THE CLAIM OUT OF ONE WALK OF THE LAW'S BODY. Your part is whole_start (and what it stands on); all else here is the same for every law, but numbers. -/
def R_law : String := "LooksServedLaw"
def lw_P (b : Addr) (xs : List Int32) (args : Array Value) (s : State) : Prop := args = #[.ref b] ∧ s.IntsAt b xs ∧ xs.length ≤ 6 ∧ (Jvm.Cond.and given_1 narrow_1).before args s = true
def lw_Q (_ : Array Value) (s : State) (o : Outcome) (t : State) : Prop := o = .returned (some (.int 1)) ∧ Framed s o t [] 600000 7302250
def lw_Z (below : List Frame) (a : Array Value) (s : State) : State → Prop := fun t => ∃ o, t.status = .running ∧ Ended t below o ∧ lw_Q a s o t
/-- the law's own end, with 1 on the stack, nothing written that was there before, its room as the claim has it -/
theorem lw_ret {p : Program} {l : Launch} {e : Env} {s : State} {m : MethodId} {below : List Frame} {meth : Method} {c : Code} {b : Nat} (hx : p.tables.exec = Jvm.exec) (hb : c.code = code) (hr : meth.sig.returnType = ret) (hlocks : meth.locks = false) {pc : Nat} {H : Heap} {ls : Array Slot} (hdg : decode code pc = .ok (.ireturn, 1)) : W p l e room_1 s m #[Value.ref b] below meth c H [] 600000 7302250 (lw_Z below #[Value.ref b] s) (F0 m pc ls [.int 1]) := by
  intro T hT X
  obtain ⟨fs, hret, hrun, hended, hW, hframe⟩ := X.leave (v := some (.int 1)) (hlocks := hlocks) (fun h => by rw [hr] at h; cases h)
  have hmeth' : T.vm.method? m = some meth := X.method'
  refine ⟨T.setFrames fs, ?_, .returned (some (.int 1)), hrun, hended, rfl, ⟨_, rfl⟩, hW, hframe⟩
  jvm_step X.here [X.here.top, hx, hb, hdg, hmeth', hr, ret, narrow_b1]
  (try refine ⟨rfl, ?_⟩); (try refine ⟨rfl, ?_⟩)
  first | (intro acts; rw [hret _ acts rfl rfl rfl]) | rw [hret _ _ rfl rfl rfl]
  exact Steps.refl _
/-- what holds at the law's entry: the machine, the code, the tables' words (any of lw_tbl by 'hts w (by decide +kernel)'), the script of L ints xs at the cell b, what the Statement gives of the start (any of its parts by flat_of_before) -/
def lw_At (p : Program) (s : State) (m : MethodId) (meth : Method) (c : Code) (b L : Nat) (xs : Nat → Int32) : Prop :=
  p.tables.exec = Jvm.exec ∧ c.code = code ∧ meth.sig.returnType = ret ∧ c.maxLocals = 4 ∧ s.vm.findClass R_law = some m.cls ∧ (∀ w ∈ lw_tbl, w.before #[Value.ref b] s = true) ∧ va_X b L xs s s.heap ∧ b < s.heap.size ∧ meth.locks = false ∧ (Jvm.Cond.and given_1 narrow_1).before #[Value.ref b] s = true
/-! THE START OF THE LAW: what the Statement gives is the picture of what was there -/
abbrev tmS (i : Nat) : Term := .string (clsN ((SRl.getD (if i = 0 then 0 else i + 1) (0, 0, 0)).1)) ((SRl.getD (if i = 0 then 0 else i + 1) (0, 0, 0)).2.1)
def byS : List (List Int32) := [roB 0, roB 1, roB 2, roB 3, roB 4, roB 5, roB 6, roB 7]
def leS : List Nat := [3, 3, 1, 1, 1, 3, 2, 3]
noncomputable def flS : List Cond := flatC (Jvm.Cond.and given_1 narrow_1)
theorem st_1 : ∀ i, i < 8 → Cond.exactly (tmS i) "java/lang/String" ∈ flS := by decide +kernel
theorem st_2 : ∀ i, i < 8 → Cond.eq (.field (tmS i) "java/lang/String" "coder" "B") (.int 0) ∈ flS := by decide +kernel
theorem st_3 : ∀ i, i < 8 → Cond.arrayOf (.field (tmS i) "java/lang/String" "value" "[B") .byte ∈ flS := by decide +kernel
theorem st_4 : ∀ i, i < 8 → Cond.eq (.length (.field (tmS i) "java/lang/String" "value" "[B")) (.int (Int32.ofNat (leS.getD i 0))) ∈ flS := by decide +kernel
theorem st_5 : ∀ i, i < 8 → ∀ j, j < leS.getD i 0 → Cond.eq (.elem (.field (tmS i) "java/lang/String" "value" "[B") (.int (Int32.ofNat j))) (.int ((byS.getD i []).getD j 0)) ∈ flS := by decide +kernel
theorem st_6 : ∀ i, i < 8 → ∀ j, j < 8 → i ≠ j → (Cond.not (Cond.eq (tmS i) (tmS j))) ∈ flS ∨ (Cond.not (Cond.eq (tmS j) (tmS i))) ∈ flS := by decide +kernel
theorem st_7 : Cond.eq (tmS 0) (.string "LooksServed" 124) ∈ flS := by decide +kernel
theorem st_8 : Cond.arrayOf (.static "LooksServed" "ABOVE" "[I") .int ∈ flS ∧ Cond.eq (.length (.static "LooksServed" "ABOVE" "[I")) (.int (Int32.ofNat 7)) ∈ flS ∧ ∀ j, j < 7 → Cond.eq (.elem (.static "LooksServed" "ABOVE" "[I") (.int (Int32.ofNat j))) (.int (([-1, 0, 0, 0, 1, 2, 3] : List Int32).getD j 0)) ∈ flS := by decide +kernel
theorem st_9 : Cond.arrayOf (.static "LooksServed" "BODIES" "[I") .int ∈ flS ∧ Cond.eq (.length (.static "LooksServed" "BODIES" "[I")) (.int (Int32.ofNat 28)) ∈ flS ∧ ∀ j, j < 28 → Cond.eq (.elem (.static "LooksServed" "BODIES" "[I") (.int (Int32.ofNat j))) (.int (roBODIES.getD j 0)) ∈ flS := by decide +kernel
theorem st_10 : Cond.eq (.static "java/lang/String" "COMPACT_STRINGS" "Z") (.int 1) ∈ flS := by decide +kernel
theorem st_11 : Cond.laysStatic "LooksServed" "ABOVE" "[I" ∈ lw_tbl ∧ Cond.laysStatic "LooksServed" "BODIES" "[I" ∈ lw_tbl ∧ Cond.laysStatic "java/lang/String" "COMPACT_STRINGS" "Z" ∈ lw_tbl ∧ Cond.initialized "LooksServed" ∈ lw_tbl ∧ Cond.initialized "java/lang/String" ∈ lw_tbl := by decide +kernel
theorem st_12 : ∀ q ∈ SRl, ∃ tx ∈ tXs, Cond.stringRef (clsN q.1) q.2.1 tx ∈ lw_tbl := by decide +kernel
theorem st_13 : ∀ q ∈ NLl, Cond.methodLinkNest (clsN q.1) q.2.1 (mNm q.2.2.1) "LooksServed" ∈ lw_tbl := by decide +kernel
theorem st_14 : Cond.arrayOver (.object "LooksServed$Sheet") ∈ lw_tbl ∧ Cond.castable "[I" "java/lang/Cloneable" ∈ lw_tbl := by decide +kernel
theorem st_15 : ∀ ci, ci < 8 → ∃ n ∈ [11, 13, 5, 7, 3, 2, 25], Cond.instantiable (clsN ci) n ∈ lw_tbl := by decide +kernel
theorem arrC {s : State} {args : Array Value} {ty : FieldType} (h : (Cond.arrayClass ty).before args s = true) : ∃ cA : ClassId, ArrOfT s cA ty ∧ s.vm.findClass ("[" ++ ty.toString) = some cA := by
  obtain ⟨c, k, comp, h1, h2, h3⟩ := Cond.arrayClass_spec h
  exact ⟨c, fun n z => ⟨(fun k h => by cases h), k, h2, comp, h3⟩, h1⟩
set_option maxHeartbeats 1000000 in
theorem law_Am {s : State} {b L : Nat} {xs : Nat → Int32} (hL : L < 2 ^ 31) (hts : ∀ w ∈ lw_tbl, w.before #[Value.ref b] s = true) (hX : va_X b L xs s s.heap) (hbl : b < s.heap.size) (hgv : (Jvm.Cond.and given_1 narrow_1).before #[Value.ref b] s = true) :
    ∃ G : AG, G.2.2.1 = s.heap.size ∧ G.2.2.2 0 = b ∧ Am G ((List.range L).map xs) s := by
  have hs : ∀ w ∈ flS, w.before #[Value.ref b] s = true := flat_of_before _ hgv
  have hA : ∀ a : Nat, a < s.heap.size → ¬ (fun q : Nat => s.heap.size ≤ q) a := fun a h q => absurd h (Nat.not_lt.mpr q)
  have hcl : ∀ ci, ∃ q : ClassId × (Nat → Nat), ci < 8 → u_Kn s (clsN ci) (TT ci) (nfT ci) q.1 q.2 := by
    intro ci
    by_cases h : ci < 8
    · obtain ⟨n, -, hn⟩ := st_15 ci h
      obtain ⟨cC, iS, hk⟩ := u_known (n := n) hts (fun w hw => (ws_0 ci h w hw).1) (hts _ hn)
      exact ⟨(cC, iS), fun _ => hk⟩
    · exact ⟨(0, fun _ => 0), fun q => absurd q h⟩
  let DC : Nat → ClassId × (Nat → Nat) := fun ci => Classical.choose (hcl ci)
  have hDC : ∀ ci, ci < 8 → u_Kn s (clsN ci) (TT ci) (nfT ci) (DC ci).1 (DC ci).2 := fun ci => Classical.choose_spec (hcl ci)
  obtain ⟨cI, hI1, hI2⟩ := arrC (hts _ (List.mem_filter.mp tw_int).1)
  obtain ⟨cB, hB1, hB2⟩ := arrC (hts _ (List.mem_filter.mp tw_bool).1)
  obtain ⟨comp, cS, kS, hS1, -, hS3, hS4, hS5⟩ := Cond.arrayOver_spec (hts _ st_14.1)
  obtain ⟨adK, adV, hvk, hev⟩ := vk_Sof (args := #[Value.ref b]) (s := s) (N := 8) (tm := tmS) (len := leS) (byt := byS) (A := fun q : Nat => s.heap.size ≤ q)
    (fun i hi => by rcases (show i = 0 ∨ i = 1 ∨ i = 2 ∨ i = 3 ∨ i = 4 ∨ i = 5 ∨ i = 6 ∨ i = 7 by omega) with h | h | h | h | h | h | h | h <;> subst h <;> decide)
    (fun i hi => hs _ (st_1 i hi)) (fun i hi => hs _ (st_2 i hi)) (fun i hi => hs _ (st_3 i hi)) (fun i hi => hs _ (st_4 i hi)) (fun i hi j hj => hs _ (st_5 i hi j hj))
    (fun i j hi hj hne => by
      rcases st_6 i hi j hj hne with h | h
      · exact Or.inl (hs _ h)
      · exact Or.inr (hs _ h)) hA
  obtain ⟨aA, hA1, hA2⟩ := va_Tof (A := fun q : Nat => s.heap.size ≤ q) (tm := .static "LooksServed" "ABOVE" "[I") (ty := .int) (N := 7) (f := fun j => .int (([-1, 0, 0, 0, 1, 2, 3] : List Int32).getD j 0)) (by decide) (hs _ st_8.1) (va_eqt (hs _ st_8.2.1)) (fun j hj => va_eqt (hs _ (st_8.2.2 j hj))) hA
  obtain ⟨aB, hB3, hB4⟩ := va_Tof (A := fun q : Nat => s.heap.size ≤ q) (tm := .static "LooksServed" "BODIES" "[I") (ty := .int) (N := 28) (f := fun j => .int (roBODIES.getD j 0)) (by decide) (hs _ st_9.1) (va_eqt (hs _ st_9.2.1)) (fun j hj => va_eqt (hs _ (st_9.2.2 j hj))) hA
  have hscr : va_T .int b L (fun j => .int (((List.range L).map xs).getD j 0)) (fun q : Nat => s.heap.size ≤ q) s s.heap := by
    obtain ⟨scr, h1, h2, h3, h4, h5⟩ := hX
    refine ⟨scr, h1, h2, h3, Nat.le_of_eq h4.symm, by rw [h4], fun j hj => ?_, hA b hbl⟩
    show scr.slots[j]? = some (Value.int (((List.range L).map xs).getD j 0))
    rw [h5 j hj, List.getD_eq_getElem?_getD, List.getElem?_map, List.getElem?_range hj]
    rfl
  refine ⟨((fun k => (DC k).1, fun k => (DC k).2), (fun k => match k with | 0 => cI | 1 => cB | _ => cS), s.heap.size, (fun p => match p with | 0 => b | 1 => aA | 2 => aB | p + 3 => if p < 8 then adK p else adV (p - 8))), rfl, rfl, ⟨fun ci q hq => ?_, fun k q hk => ?_⟩, fun p k l hp => ?_, fun p fs hp => ?_, fun k hk => ?_, fun q hq => ?_, fun q hq => va_Nw.of rfl (hts _ (st_13 q hq)), va_AO.of (hts _ st_14.1), va_Nw.of rfl (hts _ st_14.2)⟩
  · have h8 : ci < 8 := (List.getElem?_eq_some_iff.mp hq).1
    rw [vw_at h8] at hq
    cases hq
    exact hDC ci h8
  · match k, hk with
    | 0, hk => cases hk; exact ⟨hI1, hI2⟩
    | 1, hk => cases hk; exact ⟨hB1, hB2⟩
    | 2, hk =>
      cases hk
      exact ⟨fun N z => ⟨(fun k h => by cases h), kS, hS3, comp, hS4⟩, kS, comp, hS3, hS4, hS1, hS5⟩
    | k + 3, hk => simp [tysO] at hk
  · have hlt : p < 19 := (List.getElem?_eq_some_iff.mp hp).1
    by_cases h11 : p < 11
    · rcases (show p = 0 ∨ p = 1 ∨ p = 2 ∨ p = 3 ∨ p = 4 ∨ p = 5 ∨ p = 6 ∨ p = 7 ∨ p = 8 ∨ p = 9 ∨ p = 10 by omega) with h | h | h | h | h | h | h | h | h | h | h <;> subst h <;> cases hp
      · rw [List.length_map, List.length_range]
        exact hscr
      · exact hA2
      · exact hB4
    · obtain ⟨i, rfl⟩ : ∃ i, p = i + 11 := ⟨p - 11, by omega⟩
      have hi : i < 8 := by omega
      have h9 := (hvk.1 i hi).2.2.2
      have e9 : (if i + 8 < 8 then adK (i + 8) else adV (i + 8 - 8)) = adV i := by
        rw [if_neg (by omega), Nat.add_sub_cancel]
      show va_T (if k = 3 then .byte else .int) (if i + 8 < 8 then adK (i + 8) else adV (i + 8 - 8)) l.length (fun i => .int (l.getD i 0)) _ s s.heap
      rw [e9]
      rcases (show i = 0 ∨ i = 1 ∨ i = 2 ∨ i = 3 ∨ i = 4 ∨ i = 5 ∨ i = 6 ∨ i = 7 by omega) with h | h | h | h | h | h | h | h <;> subst h <;> cases hp <;> exact h9
  · have hlt : p < 19 := (List.getElem?_eq_some_iff.mp hp).1
    by_cases h11 : p < 11
    · by_cases h3 : p < 3
      · rcases (show p = 0 ∨ p = 1 ∨ p = 2 by omega) with h | h | h <;> subst h <;> cases hp
      · obtain ⟨i, rfl⟩ : ∃ i, p = i + 3 := ⟨p - 3, by omega⟩
        have hi : i < 8 := by omega
        obtain ⟨w1, w2, w3, -⟩ := hvk.1 i hi
        have e9 : (if i < 8 then adK i else adV (i - 8)) = adK i := if_pos hi
        show va_O "java/lang/String" (if i < 8 then adK i else adV (i - 8)) _ s s.heap ∧ ∀ b, b < 2 → va_OF "java/lang/String" (sfN b) (sfD b) _ (if i < 8 then adK i else adV (i - 8)) _ s s.heap
        rw [e9]
        refine ⟨w1, fun b hb => ?_⟩
        rcases (show b = 0 ∨ b = 1 by omega) with hb | hb <;> subst hb
        · rcases (show i = 0 ∨ i = 1 ∨ i = 2 ∨ i = 3 ∨ i = 4 ∨ i = 5 ∨ i = 6 ∨ i = 7 by omega) with h | h | h | h | h | h | h | h <;> subst h <;> cases hp <;> exact w3
        · rcases (show i = 0 ∨ i = 1 ∨ i = 2 ∨ i = 3 ∨ i = 4 ∨ i = 5 ∨ i = 6 ∨ i = 7 by omega) with h | h | h | h | h | h | h | h <;> subst h <;> cases hp <;> exact w2
    · rcases (show p = 11 ∨ p = 12 ∨ p = 13 ∨ p = 14 ∨ p = 15 ∨ p = 16 ∨ p = 17 ∨ p = 18 by omega) with h | h | h | h | h | h | h | h <;> subst h <;> cases hp
  · rcases hk with h | h | h <;> subst h
    · exact va_Zref (hts _ st_11.1) (hts _ st_11.2.2.2.1) hA1 hA
    · exact va_Zref (hts _ st_11.2.1) (hts _ st_11.2.2.2.1) hB3 hA
    · exact va_Zof (hts _ st_11.2.2.1) (hts _ st_11.2.2.2.2) (va_eqt (hs _ st_10)) hA
  · obtain ⟨tx, -, ht⟩ := st_12 q hq
    refine ⟨tx, vk_R.of (hts _ ht) ?_⟩
    have he := va_eqR (hs _ st_7) (hev 0 (by decide))
    simp only [SRl, List.mem_cons, List.not_mem_nil, or_false] at hq
    rcases hq with h | h | h | h | h | h | h | h | h <;> subst h
    · exact hev 0 (by decide)
    · exact he
    · exact hev 1 (by decide)
    · exact hev 2 (by decide)
    · exact hev 3 (by decide)
    · exact hev 4 (by decide)
    · exact hev 5 (by decide)
    · exact hev 6 (by decide)
    · exact hev 7 (by decide)
/-- the law's run in the small machine, from its start, comes to its end with 1 -/
def LawRuns : Prop := ∀ xs : List Int32, xs.length ≤ 6 → WP xs 1300 190 600000 7302250 [.ref 0] [] (fun r _ => r = some (.int 1))
theorem law_md : mCn 190 = 8 ∧ mMx 190 = 4 ∧ mRt 190 = some .boolean ∧ mFl 190 ≠ 2 := by decide +kernel
set_option maxHeartbeats 1000000 in
theorem whole_of (hrun : LawRuns) {p : Program} {e : Env} {s : State} {m : MethodId} {below : List Frame} {meth : Method} {c : Code} (l : Launch) {b L : Nat} {xs : Nat → Int32} (hL : L ≤ 6) (C0 : lw_At p s m meth c b L xs) : W p l e room_1 s m #[Value.ref b] below meth c s.heap [] 0 0 (lw_Z below #[Value.ref b] s) (entryFrame m ([Value.ref b] : List Value).toArray 4) := by
  obtain ⟨hx, hb, hr, hml, hown, hts, hX, hbl, hlocks, hgv⟩ := C0
  obtain ⟨G, hG1, hG2, hAm⟩ := law_Am (by omega) hts hX hbl hgv
  obtain ⟨hlen, hgw⟩ := hrun ((List.range L).map xs) (by rw [List.length_map, List.length_range]; exact hL)
  have hb' : c.code = mCd 190 := hb
  have hml' : c.maxLocals = mMx 190 := by rw [hml]; exact law_md.2.1.symm
  have E : EnvM p room_1 s m #[Value.ref b] meth c G ((List.range L).map xs) 190 1299 := by
    refine ⟨hx, hb', hml', ?_, fun w hw => hts w (List.mem_filter.mp hw).1, hAm, fun q => absurd q law_md.2.2.2, Nat.le_of_eq hG1, ?_, ?_⟩
    · rw [law_md.1]
      exact hown
    · exact Nat.le_of_ble_eq_true rfl
    · exact Nat.le_of_ble_eq_true rfl
  have hret : RetOk p l e room_1 s m #[Value.ref b] below meth c G 190 (lw_Z below #[Value.ref b] s) (fun r _ => r = some (.int 1)) := by
    refine ⟨fun x h H locs cells slots pc ls hty hq hW hS hc1 hs1 hd => ?_, fun v h H locs cells slots pc ls hty hv hq hW hS hc1 hs1 hd => ?_, fun h H locs cells slots pc ls hty hq hW hS hc1 hs1 hd => ?_⟩
    · cases hq
      refine va_forget (fun q hq => by have := hS.2.2 q hq; rw [← hG1]; exact this) ?_
      refine W.widen (k := 600000) (n := 7302250) hc1 hs1 ?_
      exact lw_ret hx hb hr hlocks hd
    · rcases hv with rfl | ⟨a, rfl⟩ <;> cases hq
    · cases hq
  have hW0 : WdO G [] s.heap := ⟨by rw [hG1]; rfl, fun k q h => by simp [wsO] at h⟩
  have hargs : ([Value.ref b] : List Value) = ([.ref 0] : List Value).map (cv G) := by
    show [Value.ref b] = [Value.ref (plG G 0)]
    rw [plG_lo (by decide), hG2]
  have hent := lvO_entry G (vs := [.ref 0]) (n := mMx 190) hlen
  rw [← hargs] at hent
  have h4 : mMx 190 = 4 := law_md.2.1
  rw [lg_entry_eq]
  have h9 := hgw (KW p l e room_1 s m #[Value.ref b] below meth c G 190 (lw_Z below #[Value.ref b] s))
      (fun pc L st h mc1 ms1 r hr hs => stp_W E (WP_met l G _ 1299) hret hr hs)
      [] s.heap _ 0 0 hW0 va_S.rf hent rfl rfl
  rw [h4] at h9
  exact h9
end
section
/-! LEAVES -/
theorem ifT {c : Prop} {_ : Decidable c} {A B : Prop} (h : c) (a : A) : (if c then A else B) := by
  rw [if_pos h]
  exact a
theorem ifF {c : Prop} {_ : Decidable c} {A B : Prop} (h : ¬ c) (b : B) : (if c then A else B) := by
  rw [if_neg h]
  exact b
theorem ifs {c : Prop} {_ : Decidable c} {A B : Prop} (a : c → A) (b : ¬ c → B) : (if c then A else B) := by
  by_cases h : c
  · exact ifT h (a h)
  · exact ifF h (b h)
/-- a call that needs no room -/
theorem cl0 {call : CT} {K : List Value → AH → Nat → Nat → Prop} {a : Nat} {args rest : List Value} {h : AH} {mc ms : Nat} (hcat : catS rest ≤ 8) (hc : call a 0 0 args h (fun r h' => K (r.toList ++ rest) h' mc ms)) : cal call K a args rest h mc ms := ⟨hcat, 0, 0, Nat.zero_le _, Nat.zero_le _, hc⟩
/-- a call that makes cells -/
theorem cl {call : CT} {K : List Value → AH → Nat → Nat → Prop} {a : Nat} {args rest : List Value} {h : AH} {mc ms : Nat} (mc' ms' : Nat) (hcat : catS rest ≤ 8) (h1 : mc' ≤ mc) (h2 : ms' ≤ ms) (hc : call a mc' ms' args h (fun r h' => K (r.toList ++ rest) h' (mc - mc') (ms - ms'))) : cal call K a args rest h mc ms := ⟨hcat, mc', ms', h1, h2, hc⟩
theorem and_i {A B : Prop} (a : A) (b : B) : A ∧ B := ⟨a, b⟩
theorem and_2 {A B C : Prop} (a : A) (b : B) (c : C) : A ∧ B ∧ C := ⟨a, b, c⟩
theorem and_3 {A B C D : Prop} (a : A) (b : B) (c : C) (d : D) : A ∧ B ∧ C ∧ D := ⟨a, b, c, d⟩
theorem and_4 {A B C D E : Prop} (a : A) (b : B) (c : C) (d : D) (e : E) : A ∧ B ∧ C ∧ D ∧ E := ⟨a, b, c, d, e⟩
theorem vin {i : Int32} {n : Nat} (h : decide (¬ (i < 0 ∨ n ≤ i.toNatClampNeg)) = true) : vp_in i n := by
  unfold vp_in
  exact of_decide_eq_true h
theorem lt_k {x y : Int32} {a b : Int} (ha : x.toInt = a) (hb : y.toInt = b) : x < y ↔ a < b := by rw [Int32.lt_iff_toInt_lt, ha, hb]
theorem le_k {x y : Int32} {a b : Int} (ha : x.toInt = a) (hb : y.toInt = b) : x ≤ y ↔ a ≤ b := by rw [Int32.le_iff_toInt_le, ha, hb]
theorem eq_k {x y : Int32} {a b : Int} (ha : x.toInt = a) (hb : y.toInt = b) : x = y ↔ a = b := by rw [← ha, ← hb, Int32.toInt_inj]
theorem sub_k {x y : Int32} {a b : Int} (ha : x.toInt = a) (hb : y.toInt = b) (h1 : -2147483648 ≤ a - b) (h2 : a - b ≤ 2147483647) : (x - y).toInt = a - b := by
  rw [Int32.toInt_sub, ha, hb]
  exact Int.bmod_eq_of_le (by omega) (by omega)
theorem add_k {x y : Int32} {a b : Int} (ha : x.toInt = a) (hb : y.toInt = b) (h1 : -2147483648 ≤ a + b) (h2 : a + b ≤ 2147483647) : (x + y).toInt = a + b := by
  rw [Int32.toInt_add, ha, hb]
  exact Int.bmod_eq_of_le (by omega) (by omega)
theorem nat_of {x : Int32} {lo hi : Nat} (h1 : (lo : Int) ≤ x.toInt) (h2 : x.toInt ≤ (hi : Int)) : ∃ j : Nat, (lo ≤ j ∧ j ≤ hi) ∧ x = Int32.ofNat j := by
  refine ⟨x.toInt.toNat, ⟨by omega, by omega⟩, ?_⟩
  apply Int32.toInt_inj.mp
  have h3 := Int32.toInt_lt x
  have h4 := nI_toInt (n := x.toInt.toNat) (by omega)
  unfold nI at h4
  rw [h4]
  omega
theorem gwh {xs : List Int32} {call : CT} {y : Nat} {Q : QT} {pc : Nat} {L : LoS} {st : List Value} {h h' : AH} {mc ms : Nat} (e : h = h') (g : gw xs call y Q pc L st h' mc ms) : gw xs call y Q pc L st h mc ms := by
  rw [e]
  exact g
theorem qh {Q : QT} {r : Option Value} {h h' : AH} (e : h = h') (g : Q r h') : Q r h := by
  rw [e]
  exact g
theorem alen_k {l : List Int32} {n : Nat} (h : l.length = n) : Int32.ofNat l.length = Int32.ofNat n := by rw [h]
theorem gwst {xs : List Int32} {call : CT} {y : Nat} {Q : QT} {pc : Nat} {L : LoS} {st st' : List Value} {h : AH} {mc ms : Nat} (e : st = st') (g : gw xs call y Q pc L st' h mc ms) : gw xs call y Q pc L st h mc ms := by
  rw [e]
  exact g
def wi (v m : Int32) : Int32 := if 0 ≤ v ∧ v ≤ m then 1 else 0
section LEAF
variable {xs : List Int32} {d : Nat} {h : AH} {Q : QT}
theorem c_within (v m : Int32) (hQ : Q (some (.int (wi v m))) h) : WP xs (d + 1) 54 0 0 [.int v, .int m] h Q := by
  refine ⟨Nat.le_of_ble_eq_true rfl, ?_⟩
  refine gs rfl ?_
  refine gs rfl ?_
  refine ifs (fun c1 => ?_) (fun c1 => ?_)
  · refine gs rfl ?_
    refine gs rfl ?_
    have e : wi v m = 0 := if_neg (fun q => by have := q.1; exact absurd c1 (Int32.not_lt.mpr this))
    rw [e] at hQ
    exact ⟨rfl, Or.inl rfl, hQ⟩
  · refine gs rfl ?_
    refine gs rfl ?_
    refine gs rfl ?_
    refine ifs (fun c2 => ?_) (fun c2 => ?_)
    · refine gs rfl ?_
      refine gs rfl ?_
      have e : wi v m = 0 := if_neg (fun q => absurd c2 (Int32.not_lt.mpr q.2))
      rw [e] at hQ
      exact ⟨rfl, Or.inl rfl, hQ⟩
    · refine gs rfl ?_
      refine gs rfl ?_
      refine gs rfl ?_
      have e : wi v m = 1 := if_pos ⟨Int32.not_lt.mp c1, Int32.not_lt.mp c2⟩
      rw [e] at hQ
      exact ⟨rfl, Or.inr rfl, hQ⟩
end LEAF
end
section
/-! THE TWO OBJECTS AT THEIR START: the constructors' runs -/
def hq_0 : AH := [.inr (6, [.null, .null, .null, .null, .null, .null, .int 0, .null, .null, .null, .null]),
  .inr (4, [.null, .null, .null, .null, .null, .null, .null, .null, .int 0, .int 0, .int 0, .null, .null])]
def hq_1 : AH := [.inr (6, [.null, .null, .null, .null, .null, .null, .int 0, .null, .null, .null, .null]),
  .inr (4, [.ref 34, .null, .null, .null, .null, .null, .null, .null, .int 0, .int 0, .int 0, .null, .null]),
  .inl (0, [5, 5, 5, 5, 5, 5, 5, 5])]
def hq_2 : AH := [.inr (6, [.null, .null, .null, .null, .null, .null, .int 0, .null, .null, .null, .null]),
  .inr (4, [.ref 34, .ref 35, .ref 36, .ref 37, .ref 38, .ref 39, .null, .null, .int 0, .int 0, .int 0, .null, .null]),
  .inl (0, [5, 5, 5, 5, 5, 5, 5, 5]),
  .inl (0, [0, 0, 0, 0, 0, 0, 0, 0]),
  .inl (0, [0, 0, 0, 0, 0, 0, 0, 0]),
  .inl (0, [0, 0, 0, 0, 0, 0, 0, 0]),
  .inl (0, [0, 0, 0, 0, 0, 0, 0, 0]),
  .inl (0, [0, 0, 0, 0, 0, 0, 0, 0])]
def hq_3 : AH := [.inr (6, [.null, .null, .null, .null, .null, .null, .int 0, .null, .null, .null, .null]),
  .inr (4, [.ref 34, .ref 35, .ref 36, .ref 37, .ref 38, .ref 39, .ref 40, .ref 41, .int 1, .int 0, .int 0, .null, .null]),
  .inl (0, [5, 5, 5, 5, 5, 5, 5, 5]),
  .inl (0, [0, 0, 0, 0, 0, 0, 0, 0]),
  .inl (0, [0, 0, 0, 0, 0, 0, 0, 0]),
  .inl (0, [0, 0, 0, 0, 0, 0, 0, 0]),
  .inl (0, [0, 0, 0, 0, 0, 0, 0, 0]),
  .inl (0, [0, 0, 0, 0, 0, 0, 0, 0]),
  .inl (1, [0, 0, 0, 0, 0, 0, 0, 0]),
  .inl (0, [0, 0, 0, 0, 0, 0, 0, 0])]
def hq_4 : AH := [.inr (6, [.ref 33, .null, .null, .null, .null, .null, .int 0, .null, .null, .null, .null]),
  .inr (4, [.ref 34, .ref 35, .ref 36, .ref 37, .ref 38, .ref 39, .ref 40, .ref 41, .int 1, .int 0, .int 0, .null, .null]),
  .inl (0, [5, 5, 5, 5, 5, 5, 5, 5]),
  .inl (0, [0, 0, 0, 0, 0, 0, 0, 0]),
  .inl (0, [0, 0, 0, 0, 0, 0, 0, 0]),
  .inl (0, [0, 0, 0, 0, 0, 0, 0, 0]),
  .inl (0, [0, 0, 0, 0, 0, 0, 0, 0]),
  .inl (0, [0, 0, 0, 0, 0, 0, 0, 0]),
  .inl (1, [0, 0, 0, 0, 0, 0, 0, 0]),
  .inl (0, [0, 0, 0, 0, 0, 0, 0, 0]),
  .inr (4, [.null, .null, .null, .null, .null, .null, .null, .null, .int 0, .int 0, .int 0, .null, .null])]
def hq_5 : AH := [.inr (6, [.ref 33, .null, .null, .null, .null, .null, .int 0, .null, .null, .null, .null]),
  .inr (4, [.ref 34, .ref 35, .ref 36, .ref 37, .ref 38, .ref 39, .ref 40, .ref 41, .int 1, .int 0, .int 0, .null, .null]),
  .inl (0, [5, 5, 5, 5, 5, 5, 5, 5]),
  .inl (0, [0, 0, 0, 0, 0, 0, 0, 0]),
  .inl (0, [0, 0, 0, 0, 0, 0, 0, 0]),
  .inl (0, [0, 0, 0, 0, 0, 0, 0, 0]),
  .inl (0, [0, 0, 0, 0, 0, 0, 0, 0]),
  .inl (0, [0, 0, 0, 0, 0, 0, 0, 0]),
  .inl (1, [0, 0, 0, 0, 0, 0, 0, 0]),
  .inl (0, [0, 0, 0, 0, 0, 0, 0, 0]),
  .inr (4, [.ref 43, .null, .null, .null, .null, .null, .null, .null, .int 0, .int 0, .int 0, .null, .null]),
  .inl (0, [5, 5, 5, 5, 5, 5, 5, 5])]
def hq_6 : AH := [.inr (6, [.ref 33, .null, .null, .null, .null, .null, .int 0, .null, .null, .null, .null]),
  .inr (4, [.ref 34, .ref 35, .ref 36, .ref 37, .ref 38, .ref 39, .ref 40, .ref 41, .int 1, .int 0, .int 0, .null, .null]),
  .inl (0, [5, 5, 5, 5, 5, 5, 5, 5]),
  .inl (0, [0, 0, 0, 0, 0, 0, 0, 0]),
  .inl (0, [0, 0, 0, 0, 0, 0, 0, 0]),
  .inl (0, [0, 0, 0, 0, 0, 0, 0, 0]),
  .inl (0, [0, 0, 0, 0, 0, 0, 0, 0]),
  .inl (0, [0, 0, 0, 0, 0, 0, 0, 0]),
  .inl (1, [0, 0, 0, 0, 0, 0, 0, 0]),
  .inl (0, [0, 0, 0, 0, 0, 0, 0, 0]),
  .inr (4, [.ref 43, .ref 44, .ref 45, .ref 46, .ref 47, .ref 48, .null, .null, .int 0, .int 0, .int 0, .null, .null]),
  .inl (0, [5, 5, 5, 5, 5, 5, 5, 5]),
  .inl (0, [0, 0, 0, 0, 0, 0, 0, 0]),
  .inl (0, [0, 0, 0, 0, 0, 0, 0, 0]),
  .inl (0, [0, 0, 0, 0, 0, 0, 0, 0]),
  .inl (0, [0, 0, 0, 0, 0, 0, 0, 0]),
  .inl (0, [0, 0, 0, 0, 0, 0, 0, 0])]
def hq_7 : AH := [.inr (6, [.ref 33, .null, .null, .null, .null, .null, .int 0, .null, .null, .null, .null]),
  .inr (4, [.ref 34, .ref 35, .ref 36, .ref 37, .ref 38, .ref 39, .ref 40, .ref 41, .int 1, .int 0, .int 0, .null, .null]),
  .inl (0, [5, 5, 5, 5, 5, 5, 5, 5]),
  .inl (0, [0, 0, 0, 0, 0, 0, 0, 0]),
  .inl (0, [0, 0, 0, 0, 0, 0, 0, 0]),
  .inl (0, [0, 0, 0, 0, 0, 0, 0, 0]),
  .inl (0, [0, 0, 0, 0, 0, 0, 0, 0]),
  .inl (0, [0, 0, 0, 0, 0, 0, 0, 0]),
  .inl (1, [0, 0, 0, 0, 0, 0, 0, 0]),
  .inl (0, [0, 0, 0, 0, 0, 0, 0, 0]),
  .inr (4, [.ref 43, .ref 44, .ref 45, .ref 46, .ref 47, .ref 48, .ref 49, .ref 50, .int 1, .int 0, .int 0, .null, .null]),
  .inl (0, [5, 5, 5, 5, 5, 5, 5, 5]),
  .inl (0, [0, 0, 0, 0, 0, 0, 0, 0]),
  .inl (0, [0, 0, 0, 0, 0, 0, 0, 0]),
  .inl (0, [0, 0, 0, 0, 0, 0, 0, 0]),
  .inl (0, [0, 0, 0, 0, 0, 0, 0, 0]),
  .inl (0, [0, 0, 0, 0, 0, 0, 0, 0]),
  .inl (1, [0, 0, 0, 0, 0, 0, 0, 0]),
  .inl (0, [0, 0, 0, 0, 0, 0, 0, 0])]
def hq_8 : AH := [.inr (6, [.ref 33, .ref 42, .null, .null, .null, .null, .int 0, .null, .null, .null, .null]),
  .inr (4, [.ref 34, .ref 35, .ref 36, .ref 37, .ref 38, .ref 39, .ref 40, .ref 41, .int 1, .int 0, .int 0, .null, .null]),
  .inl (0, [5, 5, 5, 5, 5, 5, 5, 5]),
  .inl (0, [0, 0, 0, 0, 0, 0, 0, 0]),
  .inl (0, [0, 0, 0, 0, 0, 0, 0, 0]),
  .inl (0, [0, 0, 0, 0, 0, 0, 0, 0]),
  .inl (0, [0, 0, 0, 0, 0, 0, 0, 0]),
  .inl (0, [0, 0, 0, 0, 0, 0, 0, 0]),
  .inl (1, [0, 0, 0, 0, 0, 0, 0, 0]),
  .inl (0, [0, 0, 0, 0, 0, 0, 0, 0]),
  .inr (4, [.ref 43, .ref 44, .ref 45, .ref 46, .ref 47, .ref 48, .ref 49, .ref 50, .int 1, .int 0, .int 0, .null, .null]),
  .inl (0, [5, 5, 5, 5, 5, 5, 5, 5]),
  .inl (0, [0, 0, 0, 0, 0, 0, 0, 0]),
  .inl (0, [0, 0, 0, 0, 0, 0, 0, 0]),
  .inl (0, [0, 0, 0, 0, 0, 0, 0, 0]),
  .inl (0, [0, 0, 0, 0, 0, 0, 0, 0]),
  .inl (0, [0, 0, 0, 0, 0, 0, 0, 0]),
  .inl (1, [0, 0, 0, 0, 0, 0, 0, 0]),
  .inl (0, [0, 0, 0, 0, 0, 0, 0, 0]),
  .inr (4, [.null, .null, .null, .null, .null, .null, .null, .null, .int 0, .int 0, .int 0, .null, .null])]
def hq_9 : AH := [.inr (6, [.ref 33, .ref 42, .null, .null, .null, .null, .int 0, .null, .null, .null, .null]),
  .inr (4, [.ref 34, .ref 35, .ref 36, .ref 37, .ref 38, .ref 39, .ref 40, .ref 41, .int 1, .int 0, .int 0, .null, .null]),
  .inl (0, [5, 5, 5, 5, 5, 5, 5, 5]),
  .inl (0, [0, 0, 0, 0, 0, 0, 0, 0]),
  .inl (0, [0, 0, 0, 0, 0, 0, 0, 0]),
  .inl (0, [0, 0, 0, 0, 0, 0, 0, 0]),
  .inl (0, [0, 0, 0, 0, 0, 0, 0, 0]),
  .inl (0, [0, 0, 0, 0, 0, 0, 0, 0]),
  .inl (1, [0, 0, 0, 0, 0, 0, 0, 0]),
  .inl (0, [0, 0, 0, 0, 0, 0, 0, 0]),
  .inr (4, [.ref 43, .ref 44, .ref 45, .ref 46, .ref 47, .ref 48, .ref 49, .ref 50, .int 1, .int 0, .int 0, .null, .null]),
  .inl (0, [5, 5, 5, 5, 5, 5, 5, 5]),
  .inl (0, [0, 0, 0, 0, 0, 0, 0, 0]),
  .inl (0, [0, 0, 0, 0, 0, 0, 0, 0]),
  .inl (0, [0, 0, 0, 0, 0, 0, 0, 0]),
  .inl (0, [0, 0, 0, 0, 0, 0, 0, 0]),
  .inl (0, [0, 0, 0, 0, 0, 0, 0, 0]),
  .inl (1, [0, 0, 0, 0, 0, 0, 0, 0]),
  .inl (0, [0, 0, 0, 0, 0, 0, 0, 0]),
  .inr (4, [.ref 52, .null, .null, .null, .null, .null, .null, .null, .int 0, .int 0, .int 0, .null, .null]),
  .inl (0, [5, 5, 5, 5, 5, 5, 5, 5])]
def hq_10 : AH := [.inr (6, [.ref 33, .ref 42, .null, .null, .null, .null, .int 0, .null, .null, .null, .null]),
  .inr (4, [.ref 34, .ref 35, .ref 36, .ref 37, .ref 38, .ref 39, .ref 40, .ref 41, .int 1, .int 0, .int 0, .null, .null]),
  .inl (0, [5, 5, 5, 5, 5, 5, 5, 5]),
  .inl (0, [0, 0, 0, 0, 0, 0, 0, 0]),
  .inl (0, [0, 0, 0, 0, 0, 0, 0, 0]),
  .inl (0, [0, 0, 0, 0, 0, 0, 0, 0]),
  .inl (0, [0, 0, 0, 0, 0, 0, 0, 0]),
  .inl (0, [0, 0, 0, 0, 0, 0, 0, 0]),
  .inl (1, [0, 0, 0, 0, 0, 0, 0, 0]),
  .inl (0, [0, 0, 0, 0, 0, 0, 0, 0]),
  .inr (4, [.ref 43, .ref 44, .ref 45, .ref 46, .ref 47, .ref 48, .ref 49, .ref 50, .int 1, .int 0, .int 0, .null, .null]),
  .inl (0, [5, 5, 5, 5, 5, 5, 5, 5]),
  .inl (0, [0, 0, 0, 0, 0, 0, 0, 0]),
  .inl (0, [0, 0, 0, 0, 0, 0, 0, 0]),
  .inl (0, [0, 0, 0, 0, 0, 0, 0, 0]),
  .inl (0, [0, 0, 0, 0, 0, 0, 0, 0]),
  .inl (0, [0, 0, 0, 0, 0, 0, 0, 0]),
  .inl (1, [0, 0, 0, 0, 0, 0, 0, 0]),
  .inl (0, [0, 0, 0, 0, 0, 0, 0, 0]),
  .inr (4, [.ref 52, .ref 53, .ref 54, .ref 55, .ref 56, .ref 57, .null, .null, .int 0, .int 0, .int 0, .null, .null]),
  .inl (0, [5, 5, 5, 5, 5, 5, 5, 5]),
  .inl (0, [0, 0, 0, 0, 0, 0, 0, 0]),
  .inl (0, [0, 0, 0, 0, 0, 0, 0, 0]),
  .inl (0, [0, 0, 0, 0, 0, 0, 0, 0]),
  .inl (0, [0, 0, 0, 0, 0, 0, 0, 0]),
  .inl (0, [0, 0, 0, 0, 0, 0, 0, 0])]
def hq_11 : AH := [.inr (6, [.ref 33, .ref 42, .null, .null, .null, .null, .int 0, .null, .null, .null, .null]),
  .inr (4, [.ref 34, .ref 35, .ref 36, .ref 37, .ref 38, .ref 39, .ref 40, .ref 41, .int 1, .int 0, .int 0, .null, .null]),
  .inl (0, [5, 5, 5, 5, 5, 5, 5, 5]),
  .inl (0, [0, 0, 0, 0, 0, 0, 0, 0]),
  .inl (0, [0, 0, 0, 0, 0, 0, 0, 0]),
  .inl (0, [0, 0, 0, 0, 0, 0, 0, 0]),
  .inl (0, [0, 0, 0, 0, 0, 0, 0, 0]),
  .inl (0, [0, 0, 0, 0, 0, 0, 0, 0]),
  .inl (1, [0, 0, 0, 0, 0, 0, 0, 0]),
  .inl (0, [0, 0, 0, 0, 0, 0, 0, 0]),
  .inr (4, [.ref 43, .ref 44, .ref 45, .ref 46, .ref 47, .ref 48, .ref 49, .ref 50, .int 1, .int 0, .int 0, .null, .null]),
  .inl (0, [5, 5, 5, 5, 5, 5, 5, 5]),
  .inl (0, [0, 0, 0, 0, 0, 0, 0, 0]),
  .inl (0, [0, 0, 0, 0, 0, 0, 0, 0]),
  .inl (0, [0, 0, 0, 0, 0, 0, 0, 0]),
  .inl (0, [0, 0, 0, 0, 0, 0, 0, 0]),
  .inl (0, [0, 0, 0, 0, 0, 0, 0, 0]),
  .inl (1, [0, 0, 0, 0, 0, 0, 0, 0]),
  .inl (0, [0, 0, 0, 0, 0, 0, 0, 0]),
  .inr (4, [.ref 52, .ref 53, .ref 54, .ref 55, .ref 56, .ref 57, .ref 58, .ref 59, .int 1, .int 0, .int 0, .null, .null]),
  .inl (0, [5, 5, 5, 5, 5, 5, 5, 5]),
  .inl (0, [0, 0, 0, 0, 0, 0, 0, 0]),
  .inl (0, [0, 0, 0, 0, 0, 0, 0, 0]),
  .inl (0, [0, 0, 0, 0, 0, 0, 0, 0]),
  .inl (0, [0, 0, 0, 0, 0, 0, 0, 0]),
  .inl (0, [0, 0, 0, 0, 0, 0, 0, 0]),
  .inl (1, [0, 0, 0, 0, 0, 0, 0, 0]),
  .inl (0, [0, 0, 0, 0, 0, 0, 0, 0])]
def hq_12 : AH := [.inr (6, [.ref 33, .ref 42, .ref 51, .null, .null, .null, .int 0, .null, .null, .null, .null]),
  .inr (4, [.ref 34, .ref 35, .ref 36, .ref 37, .ref 38, .ref 39, .ref 40, .ref 41, .int 1, .int 0, .int 0, .null, .null]),
  .inl (0, [5, 5, 5, 5, 5, 5, 5, 5]),
  .inl (0, [0, 0, 0, 0, 0, 0, 0, 0]),
  .inl (0, [0, 0, 0, 0, 0, 0, 0, 0]),
  .inl (0, [0, 0, 0, 0, 0, 0, 0, 0]),
  .inl (0, [0, 0, 0, 0, 0, 0, 0, 0]),
  .inl (0, [0, 0, 0, 0, 0, 0, 0, 0]),
  .inl (1, [0, 0, 0, 0, 0, 0, 0, 0]),
  .inl (0, [0, 0, 0, 0, 0, 0, 0, 0]),
  .inr (4, [.ref 43, .ref 44, .ref 45, .ref 46, .ref 47, .ref 48, .ref 49, .ref 50, .int 1, .int 0, .int 0, .null, .null]),
  .inl (0, [5, 5, 5, 5, 5, 5, 5, 5]),
  .inl (0, [0, 0, 0, 0, 0, 0, 0, 0]),
  .inl (0, [0, 0, 0, 0, 0, 0, 0, 0]),
  .inl (0, [0, 0, 0, 0, 0, 0, 0, 0]),
  .inl (0, [0, 0, 0, 0, 0, 0, 0, 0]),
  .inl (0, [0, 0, 0, 0, 0, 0, 0, 0]),
  .inl (1, [0, 0, 0, 0, 0, 0, 0, 0]),
  .inl (0, [0, 0, 0, 0, 0, 0, 0, 0]),
  .inr (4, [.ref 52, .ref 53, .ref 54, .ref 55, .ref 56, .ref 57, .ref 58, .ref 59, .int 1, .int 0, .int 0, .null, .null]),
  .inl (0, [5, 5, 5, 5, 5, 5, 5, 5]),
  .inl (0, [0, 0, 0, 0, 0, 0, 0, 0]),
  .inl (0, [0, 0, 0, 0, 0, 0, 0, 0]),
  .inl (0, [0, 0, 0, 0, 0, 0, 0, 0]),
  .inl (0, [0, 0, 0, 0, 0, 0, 0, 0]),
  .inl (0, [0, 0, 0, 0, 0, 0, 0, 0]),
  .inl (1, [0, 0, 0, 0, 0, 0, 0, 0]),
  .inl (0, [0, 0, 0, 0, 0, 0, 0, 0]),
  .inr (4, [.null, .null, .null, .null, .null, .null, .null, .null, .int 0, .int 0, .int 0, .null, .null])]
def hq_13 : AH := [.inr (6, [.ref 33, .ref 42, .ref 51, .null, .null, .null, .int 0, .null, .null, .null, .null]),
  .inr (4, [.ref 34, .ref 35, .ref 36, .ref 37, .ref 38, .ref 39, .ref 40, .ref 41, .int 1, .int 0, .int 0, .null, .null]),
  .inl (0, [5, 5, 5, 5, 5, 5, 5, 5]),
  .inl (0, [0, 0, 0, 0, 0, 0, 0, 0]),
  .inl (0, [0, 0, 0, 0, 0, 0, 0, 0]),
  .inl (0, [0, 0, 0, 0, 0, 0, 0, 0]),
  .inl (0, [0, 0, 0, 0, 0, 0, 0, 0]),
  .inl (0, [0, 0, 0, 0, 0, 0, 0, 0]),
  .inl (1, [0, 0, 0, 0, 0, 0, 0, 0]),
  .inl (0, [0, 0, 0, 0, 0, 0, 0, 0]),
  .inr (4, [.ref 43, .ref 44, .ref 45, .ref 46, .ref 47, .ref 48, .ref 49, .ref 50, .int 1, .int 0, .int 0, .null, .null]),
  .inl (0, [5, 5, 5, 5, 5, 5, 5, 5]),
  .inl (0, [0, 0, 0, 0, 0, 0, 0, 0]),
  .inl (0, [0, 0, 0, 0, 0, 0, 0, 0]),
  .inl (0, [0, 0, 0, 0, 0, 0, 0, 0]),
  .inl (0, [0, 0, 0, 0, 0, 0, 0, 0]),
  .inl (0, [0, 0, 0, 0, 0, 0, 0, 0]),
  .inl (1, [0, 0, 0, 0, 0, 0, 0, 0]),
  .inl (0, [0, 0, 0, 0, 0, 0, 0, 0]),
  .inr (4, [.ref 52, .ref 53, .ref 54, .ref 55, .ref 56, .ref 57, .ref 58, .ref 59, .int 1, .int 0, .int 0, .null, .null]),
  .inl (0, [5, 5, 5, 5, 5, 5, 5, 5]),
  .inl (0, [0, 0, 0, 0, 0, 0, 0, 0]),
  .inl (0, [0, 0, 0, 0, 0, 0, 0, 0]),
  .inl (0, [0, 0, 0, 0, 0, 0, 0, 0]),
  .inl (0, [0, 0, 0, 0, 0, 0, 0, 0]),
  .inl (0, [0, 0, 0, 0, 0, 0, 0, 0]),
  .inl (1, [0, 0, 0, 0, 0, 0, 0, 0]),
  .inl (0, [0, 0, 0, 0, 0, 0, 0, 0]),
  .inr (4, [.ref 61, .null, .null, .null, .null, .null, .null, .null, .int 0, .int 0, .int 0, .null, .null]),
  .inl (0, [5, 5, 5, 5, 5, 5, 5, 5])]
def hq_14 : AH := [.inr (6, [.ref 33, .ref 42, .ref 51, .null, .null, .null, .int 0, .null, .null, .null, .null]),
  .inr (4, [.ref 34, .ref 35, .ref 36, .ref 37, .ref 38, .ref 39, .ref 40, .ref 41, .int 1, .int 0, .int 0, .null, .null]),
  .inl (0, [5, 5, 5, 5, 5, 5, 5, 5]),
  .inl (0, [0, 0, 0, 0, 0, 0, 0, 0]),
  .inl (0, [0, 0, 0, 0, 0, 0, 0, 0]),
  .inl (0, [0, 0, 0, 0, 0, 0, 0, 0]),
  .inl (0, [0, 0, 0, 0, 0, 0, 0, 0]),
  .inl (0, [0, 0, 0, 0, 0, 0, 0, 0]),
  .inl (1, [0, 0, 0, 0, 0, 0, 0, 0]),
  .inl (0, [0, 0, 0, 0, 0, 0, 0, 0]),
  .inr (4, [.ref 43, .ref 44, .ref 45, .ref 46, .ref 47, .ref 48, .ref 49, .ref 50, .int 1, .int 0, .int 0, .null, .null]),
  .inl (0, [5, 5, 5, 5, 5, 5, 5, 5]),
  .inl (0, [0, 0, 0, 0, 0, 0, 0, 0]),
  .inl (0, [0, 0, 0, 0, 0, 0, 0, 0]),
  .inl (0, [0, 0, 0, 0, 0, 0, 0, 0]),
  .inl (0, [0, 0, 0, 0, 0, 0, 0, 0]),
  .inl (0, [0, 0, 0, 0, 0, 0, 0, 0]),
  .inl (1, [0, 0, 0, 0, 0, 0, 0, 0]),
  .inl (0, [0, 0, 0, 0, 0, 0, 0, 0]),
  .inr (4, [.ref 52, .ref 53, .ref 54, .ref 55, .ref 56, .ref 57, .ref 58, .ref 59, .int 1, .int 0, .int 0, .null, .null]),
  .inl (0, [5, 5, 5, 5, 5, 5, 5, 5]),
  .inl (0, [0, 0, 0, 0, 0, 0, 0, 0]),
  .inl (0, [0, 0, 0, 0, 0, 0, 0, 0]),
  .inl (0, [0, 0, 0, 0, 0, 0, 0, 0]),
  .inl (0, [0, 0, 0, 0, 0, 0, 0, 0]),
  .inl (0, [0, 0, 0, 0, 0, 0, 0, 0]),
  .inl (1, [0, 0, 0, 0, 0, 0, 0, 0]),
  .inl (0, [0, 0, 0, 0, 0, 0, 0, 0]),
  .inr (4, [.ref 61, .ref 62, .ref 63, .ref 64, .ref 65, .ref 66, .null, .null, .int 0, .int 0, .int 0, .null, .null]),
  .inl (0, [5, 5, 5, 5, 5, 5, 5, 5]),
  .inl (0, [0, 0, 0, 0, 0, 0, 0, 0]),
  .inl (0, [0, 0, 0, 0, 0, 0, 0, 0]),
  .inl (0, [0, 0, 0, 0, 0, 0, 0, 0]),
  .inl (0, [0, 0, 0, 0, 0, 0, 0, 0]),
  .inl (0, [0, 0, 0, 0, 0, 0, 0, 0])]
def hq_15 : AH := [.inr (6, [.ref 33, .ref 42, .ref 51, .null, .null, .null, .int 0, .null, .null, .null, .null]),
  .inr (4, [.ref 34, .ref 35, .ref 36, .ref 37, .ref 38, .ref 39, .ref 40, .ref 41, .int 1, .int 0, .int 0, .null, .null]),
  .inl (0, [5, 5, 5, 5, 5, 5, 5, 5]),
  .inl (0, [0, 0, 0, 0, 0, 0, 0, 0]),
  .inl (0, [0, 0, 0, 0, 0, 0, 0, 0]),
  .inl (0, [0, 0, 0, 0, 0, 0, 0, 0]),
  .inl (0, [0, 0, 0, 0, 0, 0, 0, 0]),
  .inl (0, [0, 0, 0, 0, 0, 0, 0, 0]),
  .inl (1, [0, 0, 0, 0, 0, 0, 0, 0]),
  .inl (0, [0, 0, 0, 0, 0, 0, 0, 0]),
  .inr (4, [.ref 43, .ref 44, .ref 45, .ref 46, .ref 47, .ref 48, .ref 49, .ref 50, .int 1, .int 0, .int 0, .null, .null]),
  .inl (0, [5, 5, 5, 5, 5, 5, 5, 5]),
  .inl (0, [0, 0, 0, 0, 0, 0, 0, 0]),
  .inl (0, [0, 0, 0, 0, 0, 0, 0, 0]),
  .inl (0, [0, 0, 0, 0, 0, 0, 0, 0]),
  .inl (0, [0, 0, 0, 0, 0, 0, 0, 0]),
  .inl (0, [0, 0, 0, 0, 0, 0, 0, 0]),
  .inl (1, [0, 0, 0, 0, 0, 0, 0, 0]),
  .inl (0, [0, 0, 0, 0, 0, 0, 0, 0]),
  .inr (4, [.ref 52, .ref 53, .ref 54, .ref 55, .ref 56, .ref 57, .ref 58, .ref 59, .int 1, .int 0, .int 0, .null, .null]),
  .inl (0, [5, 5, 5, 5, 5, 5, 5, 5]),
  .inl (0, [0, 0, 0, 0, 0, 0, 0, 0]),
  .inl (0, [0, 0, 0, 0, 0, 0, 0, 0]),
  .inl (0, [0, 0, 0, 0, 0, 0, 0, 0]),
  .inl (0, [0, 0, 0, 0, 0, 0, 0, 0]),
  .inl (0, [0, 0, 0, 0, 0, 0, 0, 0]),
  .inl (1, [0, 0, 0, 0, 0, 0, 0, 0]),
  .inl (0, [0, 0, 0, 0, 0, 0, 0, 0]),
  .inr (4, [.ref 61, .ref 62, .ref 63, .ref 64, .ref 65, .ref 66, .ref 67, .ref 68, .int 1, .int 0, .int 0, .null, .null]),
  .inl (0, [5, 5, 5, 5, 5, 5, 5, 5]),
  .inl (0, [0, 0, 0, 0, 0, 0, 0, 0]),
  .inl (0, [0, 0, 0, 0, 0, 0, 0, 0]),
  .inl (0, [0, 0, 0, 0, 0, 0, 0, 0]),
  .inl (0, [0, 0, 0, 0, 0, 0, 0, 0]),
  .inl (0, [0, 0, 0, 0, 0, 0, 0, 0]),
  .inl (1, [0, 0, 0, 0, 0, 0, 0, 0]),
  .inl (0, [0, 0, 0, 0, 0, 0, 0, 0])]
def hq_16 : AH := [.inr (6, [.ref 33, .ref 42, .ref 51, .ref 60, .null, .null, .int 0, .null, .null, .null, .null]),
  .inr (4, [.ref 34, .ref 35, .ref 36, .ref 37, .ref 38, .ref 39, .ref 40, .ref 41, .int 1, .int 0, .int 0, .null, .null]),
  .inl (0, [5, 5, 5, 5, 5, 5, 5, 5]),
  .inl (0, [0, 0, 0, 0, 0, 0, 0, 0]),
  .inl (0, [0, 0, 0, 0, 0, 0, 0, 0]),
  .inl (0, [0, 0, 0, 0, 0, 0, 0, 0]),
  .inl (0, [0, 0, 0, 0, 0, 0, 0, 0]),
  .inl (0, [0, 0, 0, 0, 0, 0, 0, 0]),
  .inl (1, [0, 0, 0, 0, 0, 0, 0, 0]),
  .inl (0, [0, 0, 0, 0, 0, 0, 0, 0]),
  .inr (4, [.ref 43, .ref 44, .ref 45, .ref 46, .ref 47, .ref 48, .ref 49, .ref 50, .int 1, .int 0, .int 0, .null, .null]),
  .inl (0, [5, 5, 5, 5, 5, 5, 5, 5]),
  .inl (0, [0, 0, 0, 0, 0, 0, 0, 0]),
  .inl (0, [0, 0, 0, 0, 0, 0, 0, 0]),
  .inl (0, [0, 0, 0, 0, 0, 0, 0, 0]),
  .inl (0, [0, 0, 0, 0, 0, 0, 0, 0]),
  .inl (0, [0, 0, 0, 0, 0, 0, 0, 0]),
  .inl (1, [0, 0, 0, 0, 0, 0, 0, 0]),
  .inl (0, [0, 0, 0, 0, 0, 0, 0, 0]),
  .inr (4, [.ref 52, .ref 53, .ref 54, .ref 55, .ref 56, .ref 57, .ref 58, .ref 59, .int 1, .int 0, .int 0, .null, .null]),
  .inl (0, [5, 5, 5, 5, 5, 5, 5, 5]),
  .inl (0, [0, 0, 0, 0, 0, 0, 0, 0]),
  .inl (0, [0, 0, 0, 0, 0, 0, 0, 0]),
  .inl (0, [0, 0, 0, 0, 0, 0, 0, 0]),
  .inl (0, [0, 0, 0, 0, 0, 0, 0, 0]),
  .inl (0, [0, 0, 0, 0, 0, 0, 0, 0]),
  .inl (1, [0, 0, 0, 0, 0, 0, 0, 0]),
  .inl (0, [0, 0, 0, 0, 0, 0, 0, 0]),
  .inr (4, [.ref 61, .ref 62, .ref 63, .ref 64, .ref 65, .ref 66, .ref 67, .ref 68, .int 1, .int 0, .int 0, .null, .null]),
  .inl (0, [5, 5, 5, 5, 5, 5, 5, 5]),
  .inl (0, [0, 0, 0, 0, 0, 0, 0, 0]),
  .inl (0, [0, 0, 0, 0, 0, 0, 0, 0]),
  .inl (0, [0, 0, 0, 0, 0, 0, 0, 0]),
  .inl (0, [0, 0, 0, 0, 0, 0, 0, 0]),
  .inl (0, [0, 0, 0, 0, 0, 0, 0, 0]),
  .inl (1, [0, 0, 0, 0, 0, 0, 0, 0]),
  .inl (0, [0, 0, 0, 0, 0, 0, 0, 0]),
  .inr (0, [.int 0, .null, .int 0, .null, .int 0])]
def hq_17 : AH := [.inr (6, [.ref 33, .ref 42, .ref 51, .ref 60, .null, .null, .int 0, .null, .null, .null, .null]),
  .inr (4, [.ref 34, .ref 35, .ref 36, .ref 37, .ref 38, .ref 39, .ref 40, .ref 41, .int 1, .int 0, .int 0, .null, .null]),
  .inl (0, [5, 5, 5, 5, 5, 5, 5, 5]),
  .inl (0, [0, 0, 0, 0, 0, 0, 0, 0]),
  .inl (0, [0, 0, 0, 0, 0, 0, 0, 0]),
  .inl (0, [0, 0, 0, 0, 0, 0, 0, 0]),
  .inl (0, [0, 0, 0, 0, 0, 0, 0, 0]),
  .inl (0, [0, 0, 0, 0, 0, 0, 0, 0]),
  .inl (1, [0, 0, 0, 0, 0, 0, 0, 0]),
  .inl (0, [0, 0, 0, 0, 0, 0, 0, 0]),
  .inr (4, [.ref 43, .ref 44, .ref 45, .ref 46, .ref 47, .ref 48, .ref 49, .ref 50, .int 1, .int 0, .int 0, .null, .null]),
  .inl (0, [5, 5, 5, 5, 5, 5, 5, 5]),
  .inl (0, [0, 0, 0, 0, 0, 0, 0, 0]),
  .inl (0, [0, 0, 0, 0, 0, 0, 0, 0]),
  .inl (0, [0, 0, 0, 0, 0, 0, 0, 0]),
  .inl (0, [0, 0, 0, 0, 0, 0, 0, 0]),
  .inl (0, [0, 0, 0, 0, 0, 0, 0, 0]),
  .inl (1, [0, 0, 0, 0, 0, 0, 0, 0]),
  .inl (0, [0, 0, 0, 0, 0, 0, 0, 0]),
  .inr (4, [.ref 52, .ref 53, .ref 54, .ref 55, .ref 56, .ref 57, .ref 58, .ref 59, .int 1, .int 0, .int 0, .null, .null]),
  .inl (0, [5, 5, 5, 5, 5, 5, 5, 5]),
  .inl (0, [0, 0, 0, 0, 0, 0, 0, 0]),
  .inl (0, [0, 0, 0, 0, 0, 0, 0, 0]),
  .inl (0, [0, 0, 0, 0, 0, 0, 0, 0]),
  .inl (0, [0, 0, 0, 0, 0, 0, 0, 0]),
  .inl (0, [0, 0, 0, 0, 0, 0, 0, 0]),
  .inl (1, [0, 0, 0, 0, 0, 0, 0, 0]),
  .inl (0, [0, 0, 0, 0, 0, 0, 0, 0]),
  .inr (4, [.ref 61, .ref 62, .ref 63, .ref 64, .ref 65, .ref 66, .ref 67, .ref 68, .int 1, .int 0, .int 0, .null, .null]),
  .inl (0, [5, 5, 5, 5, 5, 5, 5, 5]),
  .inl (0, [0, 0, 0, 0, 0, 0, 0, 0]),
  .inl (0, [0, 0, 0, 0, 0, 0, 0, 0]),
  .inl (0, [0, 0, 0, 0, 0, 0, 0, 0]),
  .inl (0, [0, 0, 0, 0, 0, 0, 0, 0]),
  .inl (0, [0, 0, 0, 0, 0, 0, 0, 0]),
  .inl (1, [0, 0, 0, 0, 0, 0, 0, 0]),
  .inl (0, [0, 0, 0, 0, 0, 0, 0, 0]),
  .inr (0, [.int 1, .ref 70, .int 0, .ref 71, .int 0]),
  .inl (0, List.replicate 50 0),
  .inl (0, List.replicate 20 0)]
def hq_18 : AH := [.inr (6, [.ref 33, .ref 42, .ref 51, .ref 60, .ref 69, .null, .int 0, .null, .null, .null, .null]),
  .inr (4, [.ref 34, .ref 35, .ref 36, .ref 37, .ref 38, .ref 39, .ref 40, .ref 41, .int 1, .int 0, .int 0, .null, .null]),
  .inl (0, [5, 5, 5, 5, 5, 5, 5, 5]),
  .inl (0, [0, 0, 0, 0, 0, 0, 0, 0]),
  .inl (0, [0, 0, 0, 0, 0, 0, 0, 0]),
  .inl (0, [0, 0, 0, 0, 0, 0, 0, 0]),
  .inl (0, [0, 0, 0, 0, 0, 0, 0, 0]),
  .inl (0, [0, 0, 0, 0, 0, 0, 0, 0]),
  .inl (1, [0, 0, 0, 0, 0, 0, 0, 0]),
  .inl (0, [0, 0, 0, 0, 0, 0, 0, 0]),
  .inr (4, [.ref 43, .ref 44, .ref 45, .ref 46, .ref 47, .ref 48, .ref 49, .ref 50, .int 1, .int 0, .int 0, .null, .null]),
  .inl (0, [5, 5, 5, 5, 5, 5, 5, 5]),
  .inl (0, [0, 0, 0, 0, 0, 0, 0, 0]),
  .inl (0, [0, 0, 0, 0, 0, 0, 0, 0]),
  .inl (0, [0, 0, 0, 0, 0, 0, 0, 0]),
  .inl (0, [0, 0, 0, 0, 0, 0, 0, 0]),
  .inl (0, [0, 0, 0, 0, 0, 0, 0, 0]),
  .inl (1, [0, 0, 0, 0, 0, 0, 0, 0]),
  .inl (0, [0, 0, 0, 0, 0, 0, 0, 0]),
  .inr (4, [.ref 52, .ref 53, .ref 54, .ref 55, .ref 56, .ref 57, .ref 58, .ref 59, .int 1, .int 0, .int 0, .null, .null]),
  .inl (0, [5, 5, 5, 5, 5, 5, 5, 5]),
  .inl (0, [0, 0, 0, 0, 0, 0, 0, 0]),
  .inl (0, [0, 0, 0, 0, 0, 0, 0, 0]),
  .inl (0, [0, 0, 0, 0, 0, 0, 0, 0]),
  .inl (0, [0, 0, 0, 0, 0, 0, 0, 0]),
  .inl (0, [0, 0, 0, 0, 0, 0, 0, 0]),
  .inl (1, [0, 0, 0, 0, 0, 0, 0, 0]),
  .inl (0, [0, 0, 0, 0, 0, 0, 0, 0]),
  .inr (4, [.ref 61, .ref 62, .ref 63, .ref 64, .ref 65, .ref 66, .ref 67, .ref 68, .int 1, .int 0, .int 0, .null, .null]),
  .inl (0, [5, 5, 5, 5, 5, 5, 5, 5]),
  .inl (0, [0, 0, 0, 0, 0, 0, 0, 0]),
  .inl (0, [0, 0, 0, 0, 0, 0, 0, 0]),
  .inl (0, [0, 0, 0, 0, 0, 0, 0, 0]),
  .inl (0, [0, 0, 0, 0, 0, 0, 0, 0]),
  .inl (0, [0, 0, 0, 0, 0, 0, 0, 0]),
  .inl (1, [0, 0, 0, 0, 0, 0, 0, 0]),
  .inl (0, [0, 0, 0, 0, 0, 0, 0, 0]),
  .inr (0, [.int 1, .ref 70, .int 0, .ref 71, .int 0]),
  .inl (0, List.replicate 50 0),
  .inl (0, List.replicate 20 0),
  .inr (0, [.int 0, .null, .int 0, .null, .int 0])]
def hq_19 : AH := [.inr (6, [.ref 33, .ref 42, .ref 51, .ref 60, .ref 69, .null, .int 0, .null, .null, .null, .null]),
  .inr (4, [.ref 34, .ref 35, .ref 36, .ref 37, .ref 38, .ref 39, .ref 40, .ref 41, .int 1, .int 0, .int 0, .null, .null]),
  .inl (0, [5, 5, 5, 5, 5, 5, 5, 5]),
  .inl (0, [0, 0, 0, 0, 0, 0, 0, 0]),
  .inl (0, [0, 0, 0, 0, 0, 0, 0, 0]),
  .inl (0, [0, 0, 0, 0, 0, 0, 0, 0]),
  .inl (0, [0, 0, 0, 0, 0, 0, 0, 0]),
  .inl (0, [0, 0, 0, 0, 0, 0, 0, 0]),
  .inl (1, [0, 0, 0, 0, 0, 0, 0, 0]),
  .inl (0, [0, 0, 0, 0, 0, 0, 0, 0]),
  .inr (4, [.ref 43, .ref 44, .ref 45, .ref 46, .ref 47, .ref 48, .ref 49, .ref 50, .int 1, .int 0, .int 0, .null, .null]),
  .inl (0, [5, 5, 5, 5, 5, 5, 5, 5]),
  .inl (0, [0, 0, 0, 0, 0, 0, 0, 0]),
  .inl (0, [0, 0, 0, 0, 0, 0, 0, 0]),
  .inl (0, [0, 0, 0, 0, 0, 0, 0, 0]),
  .inl (0, [0, 0, 0, 0, 0, 0, 0, 0]),
  .inl (0, [0, 0, 0, 0, 0, 0, 0, 0]),
  .inl (1, [0, 0, 0, 0, 0, 0, 0, 0]),
  .inl (0, [0, 0, 0, 0, 0, 0, 0, 0]),
  .inr (4, [.ref 52, .ref 53, .ref 54, .ref 55, .ref 56, .ref 57, .ref 58, .ref 59, .int 1, .int 0, .int 0, .null, .null]),
  .inl (0, [5, 5, 5, 5, 5, 5, 5, 5]),
  .inl (0, [0, 0, 0, 0, 0, 0, 0, 0]),
  .inl (0, [0, 0, 0, 0, 0, 0, 0, 0]),
  .inl (0, [0, 0, 0, 0, 0, 0, 0, 0]),
  .inl (0, [0, 0, 0, 0, 0, 0, 0, 0]),
  .inl (0, [0, 0, 0, 0, 0, 0, 0, 0]),
  .inl (1, [0, 0, 0, 0, 0, 0, 0, 0]),
  .inl (0, [0, 0, 0, 0, 0, 0, 0, 0]),
  .inr (4, [.ref 61, .ref 62, .ref 63, .ref 64, .ref 65, .ref 66, .ref 67, .ref 68, .int 1, .int 0, .int 0, .null, .null]),
  .inl (0, [5, 5, 5, 5, 5, 5, 5, 5]),
  .inl (0, [0, 0, 0, 0, 0, 0, 0, 0]),
  .inl (0, [0, 0, 0, 0, 0, 0, 0, 0]),
  .inl (0, [0, 0, 0, 0, 0, 0, 0, 0]),
  .inl (0, [0, 0, 0, 0, 0, 0, 0, 0]),
  .inl (0, [0, 0, 0, 0, 0, 0, 0, 0]),
  .inl (1, [0, 0, 0, 0, 0, 0, 0, 0]),
  .inl (0, [0, 0, 0, 0, 0, 0, 0, 0]),
  .inr (0, [.int 1, .ref 70, .int 0, .ref 71, .int 0]),
  .inl (0, List.replicate 50 0),
  .inl (0, List.replicate 20 0),
  .inr (0, [.int 1, .ref 73, .int 0, .ref 74, .int 0]),
  .inl (0, List.replicate 50 0),
  .inl (0, List.replicate 20 0)]
def hq_20 : AH := [.inr (6, [.ref 33, .ref 42, .ref 51, .ref 60, .ref 69, .ref 72, .int 0, .null, .null, .null, .null]),
  .inr (4, [.ref 34, .ref 35, .ref 36, .ref 37, .ref 38, .ref 39, .ref 40, .ref 41, .int 1, .int 0, .int 0, .null, .null]),
  .inl (0, [5, 5, 5, 5, 5, 5, 5, 5]),
  .inl (0, [0, 0, 0, 0, 0, 0, 0, 0]),
  .inl (0, [0, 0, 0, 0, 0, 0, 0, 0]),
  .inl (0, [0, 0, 0, 0, 0, 0, 0, 0]),
  .inl (0, [0, 0, 0, 0, 0, 0, 0, 0]),
  .inl (0, [0, 0, 0, 0, 0, 0, 0, 0]),
  .inl (1, [0, 0, 0, 0, 0, 0, 0, 0]),
  .inl (0, [0, 0, 0, 0, 0, 0, 0, 0]),
  .inr (4, [.ref 43, .ref 44, .ref 45, .ref 46, .ref 47, .ref 48, .ref 49, .ref 50, .int 1, .int 0, .int 0, .null, .null]),
  .inl (0, [5, 5, 5, 5, 5, 5, 5, 5]),
  .inl (0, [0, 0, 0, 0, 0, 0, 0, 0]),
  .inl (0, [0, 0, 0, 0, 0, 0, 0, 0]),
  .inl (0, [0, 0, 0, 0, 0, 0, 0, 0]),
  .inl (0, [0, 0, 0, 0, 0, 0, 0, 0]),
  .inl (0, [0, 0, 0, 0, 0, 0, 0, 0]),
  .inl (1, [0, 0, 0, 0, 0, 0, 0, 0]),
  .inl (0, [0, 0, 0, 0, 0, 0, 0, 0]),
  .inr (4, [.ref 52, .ref 53, .ref 54, .ref 55, .ref 56, .ref 57, .ref 58, .ref 59, .int 1, .int 0, .int 0, .null, .null]),
  .inl (0, [5, 5, 5, 5, 5, 5, 5, 5]),
  .inl (0, [0, 0, 0, 0, 0, 0, 0, 0]),
  .inl (0, [0, 0, 0, 0, 0, 0, 0, 0]),
  .inl (0, [0, 0, 0, 0, 0, 0, 0, 0]),
  .inl (0, [0, 0, 0, 0, 0, 0, 0, 0]),
  .inl (0, [0, 0, 0, 0, 0, 0, 0, 0]),
  .inl (1, [0, 0, 0, 0, 0, 0, 0, 0]),
  .inl (0, [0, 0, 0, 0, 0, 0, 0, 0]),
  .inr (4, [.ref 61, .ref 62, .ref 63, .ref 64, .ref 65, .ref 66, .ref 67, .ref 68, .int 1, .int 0, .int 0, .null, .null]),
  .inl (0, [5, 5, 5, 5, 5, 5, 5, 5]),
  .inl (0, [0, 0, 0, 0, 0, 0, 0, 0]),
  .inl (0, [0, 0, 0, 0, 0, 0, 0, 0]),
  .inl (0, [0, 0, 0, 0, 0, 0, 0, 0]),
  .inl (0, [0, 0, 0, 0, 0, 0, 0, 0]),
  .inl (0, [0, 0, 0, 0, 0, 0, 0, 0]),
  .inl (1, [0, 0, 0, 0, 0, 0, 0, 0]),
  .inl (0, [0, 0, 0, 0, 0, 0, 0, 0]),
  .inr (0, [.int 1, .ref 70, .int 0, .ref 71, .int 0]),
  .inl (0, List.replicate 50 0),
  .inl (0, List.replicate 20 0),
  .inr (0, [.int 1, .ref 73, .int 0, .ref 74, .int 0]),
  .inl (0, List.replicate 50 0),
  .inl (0, List.replicate 20 0),
  .inr (2, [.null, .int 0, .null, .int 0, .null, .int 0, .int 0])]
def hq_21 : AH := [.inr (6, [.ref 33, .ref 42, .ref 51, .ref 60, .ref 69, .ref 72, .int 0, .null, .null, .null, .null]),
  .inr (4, [.ref 34, .ref 35, .ref 36, .ref 37, .ref 38, .ref 39, .ref 40, .ref 41, .int 1, .int 0, .int 0, .null, .null]),
  .inl (0, [5, 5, 5, 5, 5, 5, 5, 5]),
  .inl (0, [0, 0, 0, 0, 0, 0, 0, 0]),
  .inl (0, [0, 0, 0, 0, 0, 0, 0, 0]),
  .inl (0, [0, 0, 0, 0, 0, 0, 0, 0]),
  .inl (0, [0, 0, 0, 0, 0, 0, 0, 0]),
  .inl (0, [0, 0, 0, 0, 0, 0, 0, 0]),
  .inl (1, [0, 0, 0, 0, 0, 0, 0, 0]),
  .inl (0, [0, 0, 0, 0, 0, 0, 0, 0]),
  .inr (4, [.ref 43, .ref 44, .ref 45, .ref 46, .ref 47, .ref 48, .ref 49, .ref 50, .int 1, .int 0, .int 0, .null, .null]),
  .inl (0, [5, 5, 5, 5, 5, 5, 5, 5]),
  .inl (0, [0, 0, 0, 0, 0, 0, 0, 0]),
  .inl (0, [0, 0, 0, 0, 0, 0, 0, 0]),
  .inl (0, [0, 0, 0, 0, 0, 0, 0, 0]),
  .inl (0, [0, 0, 0, 0, 0, 0, 0, 0]),
  .inl (0, [0, 0, 0, 0, 0, 0, 0, 0]),
  .inl (1, [0, 0, 0, 0, 0, 0, 0, 0]),
  .inl (0, [0, 0, 0, 0, 0, 0, 0, 0]),
  .inr (4, [.ref 52, .ref 53, .ref 54, .ref 55, .ref 56, .ref 57, .ref 58, .ref 59, .int 1, .int 0, .int 0, .null, .null]),
  .inl (0, [5, 5, 5, 5, 5, 5, 5, 5]),
  .inl (0, [0, 0, 0, 0, 0, 0, 0, 0]),
  .inl (0, [0, 0, 0, 0, 0, 0, 0, 0]),
  .inl (0, [0, 0, 0, 0, 0, 0, 0, 0]),
  .inl (0, [0, 0, 0, 0, 0, 0, 0, 0]),
  .inl (0, [0, 0, 0, 0, 0, 0, 0, 0]),
  .inl (1, [0, 0, 0, 0, 0, 0, 0, 0]),
  .inl (0, [0, 0, 0, 0, 0, 0, 0, 0]),
  .inr (4, [.ref 61, .ref 62, .ref 63, .ref 64, .ref 65, .ref 66, .ref 67, .ref 68, .int 1, .int 0, .int 0, .null, .null]),
  .inl (0, [5, 5, 5, 5, 5, 5, 5, 5]),
  .inl (0, [0, 0, 0, 0, 0, 0, 0, 0]),
  .inl (0, [0, 0, 0, 0, 0, 0, 0, 0]),
  .inl (0, [0, 0, 0, 0, 0, 0, 0, 0]),
  .inl (0, [0, 0, 0, 0, 0, 0, 0, 0]),
  .inl (0, [0, 0, 0, 0, 0, 0, 0, 0]),
  .inl (1, [0, 0, 0, 0, 0, 0, 0, 0]),
  .inl (0, [0, 0, 0, 0, 0, 0, 0, 0]),
  .inr (0, [.int 1, .ref 70, .int 0, .ref 71, .int 0]),
  .inl (0, List.replicate 50 0),
  .inl (0, List.replicate 20 0),
  .inr (0, [.int 1, .ref 73, .int 0, .ref 74, .int 0]),
  .inl (0, List.replicate 50 0),
  .inl (0, List.replicate 20 0),
  .inr (2, [.ref 76, .int 0, .ref 70, .int 0, .ref 3, .int 0, .int (-1)]),
  .inl (0, List.replicate 50 0)]
def hq_22 : AH := [.inr (6, [.ref 33, .ref 42, .ref 51, .ref 60, .ref 69, .ref 72, .int 0, .ref 75, .null, .null, .null]),
  .inr (4, [.ref 34, .ref 35, .ref 36, .ref 37, .ref 38, .ref 39, .ref 40, .ref 41, .int 1, .int 0, .int 0, .null, .null]),
  .inl (0, [5, 5, 5, 5, 5, 5, 5, 5]),
  .inl (0, [0, 0, 0, 0, 0, 0, 0, 0]),
  .inl (0, [0, 0, 0, 0, 0, 0, 0, 0]),
  .inl (0, [0, 0, 0, 0, 0, 0, 0, 0]),
  .inl (0, [0, 0, 0, 0, 0, 0, 0, 0]),
  .inl (0, [0, 0, 0, 0, 0, 0, 0, 0]),
  .inl (1, [0, 0, 0, 0, 0, 0, 0, 0]),
  .inl (0, [0, 0, 0, 0, 0, 0, 0, 0]),
  .inr (4, [.ref 43, .ref 44, .ref 45, .ref 46, .ref 47, .ref 48, .ref 49, .ref 50, .int 1, .int 0, .int 0, .null, .null]),
  .inl (0, [5, 5, 5, 5, 5, 5, 5, 5]),
  .inl (0, [0, 0, 0, 0, 0, 0, 0, 0]),
  .inl (0, [0, 0, 0, 0, 0, 0, 0, 0]),
  .inl (0, [0, 0, 0, 0, 0, 0, 0, 0]),
  .inl (0, [0, 0, 0, 0, 0, 0, 0, 0]),
  .inl (0, [0, 0, 0, 0, 0, 0, 0, 0]),
  .inl (1, [0, 0, 0, 0, 0, 0, 0, 0]),
  .inl (0, [0, 0, 0, 0, 0, 0, 0, 0]),
  .inr (4, [.ref 52, .ref 53, .ref 54, .ref 55, .ref 56, .ref 57, .ref 58, .ref 59, .int 1, .int 0, .int 0, .null, .null]),
  .inl (0, [5, 5, 5, 5, 5, 5, 5, 5]),
  .inl (0, [0, 0, 0, 0, 0, 0, 0, 0]),
  .inl (0, [0, 0, 0, 0, 0, 0, 0, 0]),
  .inl (0, [0, 0, 0, 0, 0, 0, 0, 0]),
  .inl (0, [0, 0, 0, 0, 0, 0, 0, 0]),
  .inl (0, [0, 0, 0, 0, 0, 0, 0, 0]),
  .inl (1, [0, 0, 0, 0, 0, 0, 0, 0]),
  .inl (0, [0, 0, 0, 0, 0, 0, 0, 0]),
  .inr (4, [.ref 61, .ref 62, .ref 63, .ref 64, .ref 65, .ref 66, .ref 67, .ref 68, .int 1, .int 0, .int 0, .null, .null]),
  .inl (0, [5, 5, 5, 5, 5, 5, 5, 5]),
  .inl (0, [0, 0, 0, 0, 0, 0, 0, 0]),
  .inl (0, [0, 0, 0, 0, 0, 0, 0, 0]),
  .inl (0, [0, 0, 0, 0, 0, 0, 0, 0]),
  .inl (0, [0, 0, 0, 0, 0, 0, 0, 0]),
  .inl (0, [0, 0, 0, 0, 0, 0, 0, 0]),
  .inl (1, [0, 0, 0, 0, 0, 0, 0, 0]),
  .inl (0, [0, 0, 0, 0, 0, 0, 0, 0]),
  .inr (0, [.int 1, .ref 70, .int 0, .ref 71, .int 0]),
  .inl (0, List.replicate 50 0),
  .inl (0, List.replicate 20 0),
  .inr (0, [.int 1, .ref 73, .int 0, .ref 74, .int 0]),
  .inl (0, List.replicate 50 0),
  .inl (0, List.replicate 20 0),
  .inr (2, [.ref 76, .int 0, .ref 70, .int 0, .ref 3, .int 0, .int (-1)]),
  .inl (0, List.replicate 50 0),
  .inr (5, [.int 0, .int 0, .int 0, .null, .int 0])]
def hq_23 : AH := [.inr (6, [.ref 33, .ref 42, .ref 51, .ref 60, .ref 69, .ref 72, .int 0, .ref 75, .null, .null, .null]),
  .inr (4, [.ref 34, .ref 35, .ref 36, .ref 37, .ref 38, .ref 39, .ref 40, .ref 41, .int 1, .int 0, .int 0, .null, .null]),
  .inl (0, [5, 5, 5, 5, 5, 5, 5, 5]),
  .inl (0, [0, 0, 0, 0, 0, 0, 0, 0]),
  .inl (0, [0, 0, 0, 0, 0, 0, 0, 0]),
  .inl (0, [0, 0, 0, 0, 0, 0, 0, 0]),
  .inl (0, [0, 0, 0, 0, 0, 0, 0, 0]),
  .inl (0, [0, 0, 0, 0, 0, 0, 0, 0]),
  .inl (1, [0, 0, 0, 0, 0, 0, 0, 0]),
  .inl (0, [0, 0, 0, 0, 0, 0, 0, 0]),
  .inr (4, [.ref 43, .ref 44, .ref 45, .ref 46, .ref 47, .ref 48, .ref 49, .ref 50, .int 1, .int 0, .int 0, .null, .null]),
  .inl (0, [5, 5, 5, 5, 5, 5, 5, 5]),
  .inl (0, [0, 0, 0, 0, 0, 0, 0, 0]),
  .inl (0, [0, 0, 0, 0, 0, 0, 0, 0]),
  .inl (0, [0, 0, 0, 0, 0, 0, 0, 0]),
  .inl (0, [0, 0, 0, 0, 0, 0, 0, 0]),
  .inl (0, [0, 0, 0, 0, 0, 0, 0, 0]),
  .inl (1, [0, 0, 0, 0, 0, 0, 0, 0]),
  .inl (0, [0, 0, 0, 0, 0, 0, 0, 0]),
  .inr (4, [.ref 52, .ref 53, .ref 54, .ref 55, .ref 56, .ref 57, .ref 58, .ref 59, .int 1, .int 0, .int 0, .null, .null]),
  .inl (0, [5, 5, 5, 5, 5, 5, 5, 5]),
  .inl (0, [0, 0, 0, 0, 0, 0, 0, 0]),
  .inl (0, [0, 0, 0, 0, 0, 0, 0, 0]),
  .inl (0, [0, 0, 0, 0, 0, 0, 0, 0]),
  .inl (0, [0, 0, 0, 0, 0, 0, 0, 0]),
  .inl (0, [0, 0, 0, 0, 0, 0, 0, 0]),
  .inl (1, [0, 0, 0, 0, 0, 0, 0, 0]),
  .inl (0, [0, 0, 0, 0, 0, 0, 0, 0]),
  .inr (4, [.ref 61, .ref 62, .ref 63, .ref 64, .ref 65, .ref 66, .ref 67, .ref 68, .int 1, .int 0, .int 0, .null, .null]),
  .inl (0, [5, 5, 5, 5, 5, 5, 5, 5]),
  .inl (0, [0, 0, 0, 0, 0, 0, 0, 0]),
  .inl (0, [0, 0, 0, 0, 0, 0, 0, 0]),
  .inl (0, [0, 0, 0, 0, 0, 0, 0, 0]),
  .inl (0, [0, 0, 0, 0, 0, 0, 0, 0]),
  .inl (0, [0, 0, 0, 0, 0, 0, 0, 0]),
  .inl (1, [0, 0, 0, 0, 0, 0, 0, 0]),
  .inl (0, [0, 0, 0, 0, 0, 0, 0, 0]),
  .inr (0, [.int 1, .ref 70, .int 0, .ref 71, .int 0]),
  .inl (0, List.replicate 50 0),
  .inl (0, List.replicate 20 0),
  .inr (0, [.int 1, .ref 73, .int 0, .ref 74, .int 0]),
  .inl (0, List.replicate 50 0),
  .inl (0, List.replicate 20 0),
  .inr (2, [.ref 76, .int 0, .ref 70, .int 0, .ref 3, .int 0, .int (-1)]),
  .inl (0, List.replicate 50 0),
  .inr (5, [.int 0, .int 0, .int 0, .ref 78, .int 0]),
  .inl (0, List.replicate 40 0)]
def hq_24 : AH := [.inr (6, [.ref 33, .ref 42, .ref 51, .ref 60, .ref 69, .ref 72, .int 0, .ref 75, .ref 77, .null, .null]),
  .inr (4, [.ref 34, .ref 35, .ref 36, .ref 37, .ref 38, .ref 39, .ref 40, .ref 41, .int 1, .int 0, .int 0, .null, .null]),
  .inl (0, [5, 5, 5, 5, 5, 5, 5, 5]),
  .inl (0, [0, 0, 0, 0, 0, 0, 0, 0]),
  .inl (0, [0, 0, 0, 0, 0, 0, 0, 0]),
  .inl (0, [0, 0, 0, 0, 0, 0, 0, 0]),
  .inl (0, [0, 0, 0, 0, 0, 0, 0, 0]),
  .inl (0, [0, 0, 0, 0, 0, 0, 0, 0]),
  .inl (1, [0, 0, 0, 0, 0, 0, 0, 0]),
  .inl (0, [0, 0, 0, 0, 0, 0, 0, 0]),
  .inr (4, [.ref 43, .ref 44, .ref 45, .ref 46, .ref 47, .ref 48, .ref 49, .ref 50, .int 1, .int 0, .int 0, .null, .null]),
  .inl (0, [5, 5, 5, 5, 5, 5, 5, 5]),
  .inl (0, [0, 0, 0, 0, 0, 0, 0, 0]),
  .inl (0, [0, 0, 0, 0, 0, 0, 0, 0]),
  .inl (0, [0, 0, 0, 0, 0, 0, 0, 0]),
  .inl (0, [0, 0, 0, 0, 0, 0, 0, 0]),
  .inl (0, [0, 0, 0, 0, 0, 0, 0, 0]),
  .inl (1, [0, 0, 0, 0, 0, 0, 0, 0]),
  .inl (0, [0, 0, 0, 0, 0, 0, 0, 0]),
  .inr (4, [.ref 52, .ref 53, .ref 54, .ref 55, .ref 56, .ref 57, .ref 58, .ref 59, .int 1, .int 0, .int 0, .null, .null]),
  .inl (0, [5, 5, 5, 5, 5, 5, 5, 5]),
  .inl (0, [0, 0, 0, 0, 0, 0, 0, 0]),
  .inl (0, [0, 0, 0, 0, 0, 0, 0, 0]),
  .inl (0, [0, 0, 0, 0, 0, 0, 0, 0]),
  .inl (0, [0, 0, 0, 0, 0, 0, 0, 0]),
  .inl (0, [0, 0, 0, 0, 0, 0, 0, 0]),
  .inl (1, [0, 0, 0, 0, 0, 0, 0, 0]),
  .inl (0, [0, 0, 0, 0, 0, 0, 0, 0]),
  .inr (4, [.ref 61, .ref 62, .ref 63, .ref 64, .ref 65, .ref 66, .ref 67, .ref 68, .int 1, .int 0, .int 0, .null, .null]),
  .inl (0, [5, 5, 5, 5, 5, 5, 5, 5]),
  .inl (0, [0, 0, 0, 0, 0, 0, 0, 0]),
  .inl (0, [0, 0, 0, 0, 0, 0, 0, 0]),
  .inl (0, [0, 0, 0, 0, 0, 0, 0, 0]),
  .inl (0, [0, 0, 0, 0, 0, 0, 0, 0]),
  .inl (0, [0, 0, 0, 0, 0, 0, 0, 0]),
  .inl (1, [0, 0, 0, 0, 0, 0, 0, 0]),
  .inl (0, [0, 0, 0, 0, 0, 0, 0, 0]),
  .inr (0, [.int 1, .ref 70, .int 0, .ref 71, .int 0]),
  .inl (0, List.replicate 50 0),
  .inl (0, List.replicate 20 0),
  .inr (0, [.int 1, .ref 73, .int 0, .ref 74, .int 0]),
  .inl (0, List.replicate 50 0),
  .inl (0, List.replicate 20 0),
  .inr (2, [.ref 76, .int 0, .ref 70, .int 0, .ref 3, .int 0, .int (-1)]),
  .inl (0, List.replicate 50 0),
  .inr (5, [.int 0, .int 0, .int 0, .ref 78, .int 0]),
  .inl (0, List.replicate 40 0),
  .inr (50, [.null, .null, .null, .null]),
  .inr (3, [.int 0, .int 0, .null])]
def hq_25 : AH := [.inr (6, [.ref 33, .ref 42, .ref 51, .ref 60, .ref 69, .ref 72, .int 0, .ref 75, .ref 77, .null, .null]),
  .inr (4, [.ref 34, .ref 35, .ref 36, .ref 37, .ref 38, .ref 39, .ref 40, .ref 41, .int 1, .int 0, .int 0, .null, .null]),
  .inl (0, [5, 5, 5, 5, 5, 5, 5, 5]),
  .inl (0, [0, 0, 0, 0, 0, 0, 0, 0]),
  .inl (0, [0, 0, 0, 0, 0, 0, 0, 0]),
  .inl (0, [0, 0, 0, 0, 0, 0, 0, 0]),
  .inl (0, [0, 0, 0, 0, 0, 0, 0, 0]),
  .inl (0, [0, 0, 0, 0, 0, 0, 0, 0]),
  .inl (1, [0, 0, 0, 0, 0, 0, 0, 0]),
  .inl (0, [0, 0, 0, 0, 0, 0, 0, 0]),
  .inr (4, [.ref 43, .ref 44, .ref 45, .ref 46, .ref 47, .ref 48, .ref 49, .ref 50, .int 1, .int 0, .int 0, .null, .null]),
  .inl (0, [5, 5, 5, 5, 5, 5, 5, 5]),
  .inl (0, [0, 0, 0, 0, 0, 0, 0, 0]),
  .inl (0, [0, 0, 0, 0, 0, 0, 0, 0]),
  .inl (0, [0, 0, 0, 0, 0, 0, 0, 0]),
  .inl (0, [0, 0, 0, 0, 0, 0, 0, 0]),
  .inl (0, [0, 0, 0, 0, 0, 0, 0, 0]),
  .inl (1, [0, 0, 0, 0, 0, 0, 0, 0]),
  .inl (0, [0, 0, 0, 0, 0, 0, 0, 0]),
  .inr (4, [.ref 52, .ref 53, .ref 54, .ref 55, .ref 56, .ref 57, .ref 58, .ref 59, .int 1, .int 0, .int 0, .null, .null]),
  .inl (0, [5, 5, 5, 5, 5, 5, 5, 5]),
  .inl (0, [0, 0, 0, 0, 0, 0, 0, 0]),
  .inl (0, [0, 0, 0, 0, 0, 0, 0, 0]),
  .inl (0, [0, 0, 0, 0, 0, 0, 0, 0]),
  .inl (0, [0, 0, 0, 0, 0, 0, 0, 0]),
  .inl (0, [0, 0, 0, 0, 0, 0, 0, 0]),
  .inl (1, [0, 0, 0, 0, 0, 0, 0, 0]),
  .inl (0, [0, 0, 0, 0, 0, 0, 0, 0]),
  .inr (4, [.ref 61, .ref 62, .ref 63, .ref 64, .ref 65, .ref 66, .ref 67, .ref 68, .int 1, .int 0, .int 0, .null, .null]),
  .inl (0, [5, 5, 5, 5, 5, 5, 5, 5]),
  .inl (0, [0, 0, 0, 0, 0, 0, 0, 0]),
  .inl (0, [0, 0, 0, 0, 0, 0, 0, 0]),
  .inl (0, [0, 0, 0, 0, 0, 0, 0, 0]),
  .inl (0, [0, 0, 0, 0, 0, 0, 0, 0]),
  .inl (0, [0, 0, 0, 0, 0, 0, 0, 0]),
  .inl (1, [0, 0, 0, 0, 0, 0, 0, 0]),
  .inl (0, [0, 0, 0, 0, 0, 0, 0, 0]),
  .inr (0, [.int 1, .ref 70, .int 0, .ref 71, .int 0]),
  .inl (0, List.replicate 50 0),
  .inl (0, List.replicate 20 0),
  .inr (0, [.int 1, .ref 73, .int 0, .ref 74, .int 0]),
  .inl (0, List.replicate 50 0),
  .inl (0, List.replicate 20 0),
  .inr (2, [.ref 76, .int 0, .ref 70, .int 0, .ref 3, .int 0, .int (-1)]),
  .inl (0, List.replicate 50 0),
  .inr (5, [.int 0, .int 0, .int 0, .ref 78, .int 0]),
  .inl (0, List.replicate 40 0),
  .inr (50, [.null, .null, .null, .null]),
  .inr (3, [.int 0, .int 0, .ref 81]),
  .inl (0, List.replicate 40 0)]
def hq_26 : AH := [.inr (6, [.ref 33, .ref 42, .ref 51, .ref 60, .ref 69, .ref 72, .int 0, .ref 75, .ref 77, .null, .null]),
  .inr (4, [.ref 34, .ref 35, .ref 36, .ref 37, .ref 38, .ref 39, .ref 40, .ref 41, .int 1, .int 0, .int 0, .null, .null]),
  .inl (0, [5, 5, 5, 5, 5, 5, 5, 5]),
  .inl (0, [0, 0, 0, 0, 0, 0, 0, 0]),
  .inl (0, [0, 0, 0, 0, 0, 0, 0, 0]),
  .inl (0, [0, 0, 0, 0, 0, 0, 0, 0]),
  .inl (0, [0, 0, 0, 0, 0, 0, 0, 0]),
  .inl (0, [0, 0, 0, 0, 0, 0, 0, 0]),
  .inl (1, [0, 0, 0, 0, 0, 0, 0, 0]),
  .inl (0, [0, 0, 0, 0, 0, 0, 0, 0]),
  .inr (4, [.ref 43, .ref 44, .ref 45, .ref 46, .ref 47, .ref 48, .ref 49, .ref 50, .int 1, .int 0, .int 0, .null, .null]),
  .inl (0, [5, 5, 5, 5, 5, 5, 5, 5]),
  .inl (0, [0, 0, 0, 0, 0, 0, 0, 0]),
  .inl (0, [0, 0, 0, 0, 0, 0, 0, 0]),
  .inl (0, [0, 0, 0, 0, 0, 0, 0, 0]),
  .inl (0, [0, 0, 0, 0, 0, 0, 0, 0]),
  .inl (0, [0, 0, 0, 0, 0, 0, 0, 0]),
  .inl (1, [0, 0, 0, 0, 0, 0, 0, 0]),
  .inl (0, [0, 0, 0, 0, 0, 0, 0, 0]),
  .inr (4, [.ref 52, .ref 53, .ref 54, .ref 55, .ref 56, .ref 57, .ref 58, .ref 59, .int 1, .int 0, .int 0, .null, .null]),
  .inl (0, [5, 5, 5, 5, 5, 5, 5, 5]),
  .inl (0, [0, 0, 0, 0, 0, 0, 0, 0]),
  .inl (0, [0, 0, 0, 0, 0, 0, 0, 0]),
  .inl (0, [0, 0, 0, 0, 0, 0, 0, 0]),
  .inl (0, [0, 0, 0, 0, 0, 0, 0, 0]),
  .inl (0, [0, 0, 0, 0, 0, 0, 0, 0]),
  .inl (1, [0, 0, 0, 0, 0, 0, 0, 0]),
  .inl (0, [0, 0, 0, 0, 0, 0, 0, 0]),
  .inr (4, [.ref 61, .ref 62, .ref 63, .ref 64, .ref 65, .ref 66, .ref 67, .ref 68, .int 1, .int 0, .int 0, .null, .null]),
  .inl (0, [5, 5, 5, 5, 5, 5, 5, 5]),
  .inl (0, [0, 0, 0, 0, 0, 0, 0, 0]),
  .inl (0, [0, 0, 0, 0, 0, 0, 0, 0]),
  .inl (0, [0, 0, 0, 0, 0, 0, 0, 0]),
  .inl (0, [0, 0, 0, 0, 0, 0, 0, 0]),
  .inl (0, [0, 0, 0, 0, 0, 0, 0, 0]),
  .inl (1, [0, 0, 0, 0, 0, 0, 0, 0]),
  .inl (0, [0, 0, 0, 0, 0, 0, 0, 0]),
  .inr (0, [.int 1, .ref 70, .int 0, .ref 71, .int 0]),
  .inl (0, List.replicate 50 0),
  .inl (0, List.replicate 20 0),
  .inr (0, [.int 1, .ref 73, .int 0, .ref 74, .int 0]),
  .inl (0, List.replicate 50 0),
  .inl (0, List.replicate 20 0),
  .inr (2, [.ref 76, .int 0, .ref 70, .int 0, .ref 3, .int 0, .int (-1)]),
  .inl (0, List.replicate 50 0),
  .inr (5, [.int 0, .int 0, .int 0, .ref 78, .int 0]),
  .inl (0, List.replicate 40 0),
  .inr (50, [.ref 80, .null, .null, .null]),
  .inr (3, [.int 0, .int 0, .ref 81]),
  .inl (0, List.replicate 40 0),
  .inr (3, [.int 0, .int 0, .null])]
def hq_27 : AH := [.inr (6, [.ref 33, .ref 42, .ref 51, .ref 60, .ref 69, .ref 72, .int 0, .ref 75, .ref 77, .null, .null]),
  .inr (4, [.ref 34, .ref 35, .ref 36, .ref 37, .ref 38, .ref 39, .ref 40, .ref 41, .int 1, .int 0, .int 0, .null, .null]),
  .inl (0, [5, 5, 5, 5, 5, 5, 5, 5]),
  .inl (0, [0, 0, 0, 0, 0, 0, 0, 0]),
  .inl (0, [0, 0, 0, 0, 0, 0, 0, 0]),
  .inl (0, [0, 0, 0, 0, 0, 0, 0, 0]),
  .inl (0, [0, 0, 0, 0, 0, 0, 0, 0]),
  .inl (0, [0, 0, 0, 0, 0, 0, 0, 0]),
  .inl (1, [0, 0, 0, 0, 0, 0, 0, 0]),
  .inl (0, [0, 0, 0, 0, 0, 0, 0, 0]),
  .inr (4, [.ref 43, .ref 44, .ref 45, .ref 46, .ref 47, .ref 48, .ref 49, .ref 50, .int 1, .int 0, .int 0, .null, .null]),
  .inl (0, [5, 5, 5, 5, 5, 5, 5, 5]),
  .inl (0, [0, 0, 0, 0, 0, 0, 0, 0]),
  .inl (0, [0, 0, 0, 0, 0, 0, 0, 0]),
  .inl (0, [0, 0, 0, 0, 0, 0, 0, 0]),
  .inl (0, [0, 0, 0, 0, 0, 0, 0, 0]),
  .inl (0, [0, 0, 0, 0, 0, 0, 0, 0]),
  .inl (1, [0, 0, 0, 0, 0, 0, 0, 0]),
  .inl (0, [0, 0, 0, 0, 0, 0, 0, 0]),
  .inr (4, [.ref 52, .ref 53, .ref 54, .ref 55, .ref 56, .ref 57, .ref 58, .ref 59, .int 1, .int 0, .int 0, .null, .null]),
  .inl (0, [5, 5, 5, 5, 5, 5, 5, 5]),
  .inl (0, [0, 0, 0, 0, 0, 0, 0, 0]),
  .inl (0, [0, 0, 0, 0, 0, 0, 0, 0]),
  .inl (0, [0, 0, 0, 0, 0, 0, 0, 0]),
  .inl (0, [0, 0, 0, 0, 0, 0, 0, 0]),
  .inl (0, [0, 0, 0, 0, 0, 0, 0, 0]),
  .inl (1, [0, 0, 0, 0, 0, 0, 0, 0]),
  .inl (0, [0, 0, 0, 0, 0, 0, 0, 0]),
  .inr (4, [.ref 61, .ref 62, .ref 63, .ref 64, .ref 65, .ref 66, .ref 67, .ref 68, .int 1, .int 0, .int 0, .null, .null]),
  .inl (0, [5, 5, 5, 5, 5, 5, 5, 5]),
  .inl (0, [0, 0, 0, 0, 0, 0, 0, 0]),
  .inl (0, [0, 0, 0, 0, 0, 0, 0, 0]),
  .inl (0, [0, 0, 0, 0, 0, 0, 0, 0]),
  .inl (0, [0, 0, 0, 0, 0, 0, 0, 0]),
  .inl (0, [0, 0, 0, 0, 0, 0, 0, 0]),
  .inl (1, [0, 0, 0, 0, 0, 0, 0, 0]),
  .inl (0, [0, 0, 0, 0, 0, 0, 0, 0]),
  .inr (0, [.int 1, .ref 70, .int 0, .ref 71, .int 0]),
  .inl (0, List.replicate 50 0),
  .inl (0, List.replicate 20 0),
  .inr (0, [.int 1, .ref 73, .int 0, .ref 74, .int 0]),
  .inl (0, List.replicate 50 0),
  .inl (0, List.replicate 20 0),
  .inr (2, [.ref 76, .int 0, .ref 70, .int 0, .ref 3, .int 0, .int (-1)]),
  .inl (0, List.replicate 50 0),
  .inr (5, [.int 0, .int 0, .int 0, .ref 78, .int 0]),
  .inl (0, List.replicate 40 0),
  .inr (50, [.ref 80, .null, .null, .null]),
  .inr (3, [.int 0, .int 0, .ref 81]),
  .inl (0, List.replicate 40 0),
  .inr (3, [.int 0, .int 0, .ref 83]),
  .inl (0, List.replicate 40 0)]
def hq_28 : AH := [.inr (6, [.ref 33, .ref 42, .ref 51, .ref 60, .ref 69, .ref 72, .int 0, .ref 75, .ref 77, .null, .null]),
  .inr (4, [.ref 34, .ref 35, .ref 36, .ref 37, .ref 38, .ref 39, .ref 40, .ref 41, .int 1, .int 0, .int 0, .null, .null]),
  .inl (0, [5, 5, 5, 5, 5, 5, 5, 5]),
  .inl (0, [0, 0, 0, 0, 0, 0, 0, 0]),
  .inl (0, [0, 0, 0, 0, 0, 0, 0, 0]),
  .inl (0, [0, 0, 0, 0, 0, 0, 0, 0]),
  .inl (0, [0, 0, 0, 0, 0, 0, 0, 0]),
  .inl (0, [0, 0, 0, 0, 0, 0, 0, 0]),
  .inl (1, [0, 0, 0, 0, 0, 0, 0, 0]),
  .inl (0, [0, 0, 0, 0, 0, 0, 0, 0]),
  .inr (4, [.ref 43, .ref 44, .ref 45, .ref 46, .ref 47, .ref 48, .ref 49, .ref 50, .int 1, .int 0, .int 0, .null, .null]),
  .inl (0, [5, 5, 5, 5, 5, 5, 5, 5]),
  .inl (0, [0, 0, 0, 0, 0, 0, 0, 0]),
  .inl (0, [0, 0, 0, 0, 0, 0, 0, 0]),
  .inl (0, [0, 0, 0, 0, 0, 0, 0, 0]),
  .inl (0, [0, 0, 0, 0, 0, 0, 0, 0]),
  .inl (0, [0, 0, 0, 0, 0, 0, 0, 0]),
  .inl (1, [0, 0, 0, 0, 0, 0, 0, 0]),
  .inl (0, [0, 0, 0, 0, 0, 0, 0, 0]),
  .inr (4, [.ref 52, .ref 53, .ref 54, .ref 55, .ref 56, .ref 57, .ref 58, .ref 59, .int 1, .int 0, .int 0, .null, .null]),
  .inl (0, [5, 5, 5, 5, 5, 5, 5, 5]),
  .inl (0, [0, 0, 0, 0, 0, 0, 0, 0]),
  .inl (0, [0, 0, 0, 0, 0, 0, 0, 0]),
  .inl (0, [0, 0, 0, 0, 0, 0, 0, 0]),
  .inl (0, [0, 0, 0, 0, 0, 0, 0, 0]),
  .inl (0, [0, 0, 0, 0, 0, 0, 0, 0]),
  .inl (1, [0, 0, 0, 0, 0, 0, 0, 0]),
  .inl (0, [0, 0, 0, 0, 0, 0, 0, 0]),
  .inr (4, [.ref 61, .ref 62, .ref 63, .ref 64, .ref 65, .ref 66, .ref 67, .ref 68, .int 1, .int 0, .int 0, .null, .null]),
  .inl (0, [5, 5, 5, 5, 5, 5, 5, 5]),
  .inl (0, [0, 0, 0, 0, 0, 0, 0, 0]),
  .inl (0, [0, 0, 0, 0, 0, 0, 0, 0]),
  .inl (0, [0, 0, 0, 0, 0, 0, 0, 0]),
  .inl (0, [0, 0, 0, 0, 0, 0, 0, 0]),
  .inl (0, [0, 0, 0, 0, 0, 0, 0, 0]),
  .inl (1, [0, 0, 0, 0, 0, 0, 0, 0]),
  .inl (0, [0, 0, 0, 0, 0, 0, 0, 0]),
  .inr (0, [.int 1, .ref 70, .int 0, .ref 71, .int 0]),
  .inl (0, List.replicate 50 0),
  .inl (0, List.replicate 20 0),
  .inr (0, [.int 1, .ref 73, .int 0, .ref 74, .int 0]),
  .inl (0, List.replicate 50 0),
  .inl (0, List.replicate 20 0),
  .inr (2, [.ref 76, .int 0, .ref 70, .int 0, .ref 3, .int 0, .int (-1)]),
  .inl (0, List.replicate 50 0),
  .inr (5, [.int 0, .int 0, .int 0, .ref 78, .int 0]),
  .inl (0, List.replicate 40 0),
  .inr (50, [.ref 80, .ref 82, .null, .null]),
  .inr (3, [.int 0, .int 0, .ref 81]),
  .inl (0, List.replicate 40 0),
  .inr (3, [.int 0, .int 0, .ref 83]),
  .inl (0, List.replicate 40 0),
  .inr (3, [.int 0, .int 0, .null])]
def hq_29 : AH := [.inr (6, [.ref 33, .ref 42, .ref 51, .ref 60, .ref 69, .ref 72, .int 0, .ref 75, .ref 77, .null, .null]),
  .inr (4, [.ref 34, .ref 35, .ref 36, .ref 37, .ref 38, .ref 39, .ref 40, .ref 41, .int 1, .int 0, .int 0, .null, .null]),
  .inl (0, [5, 5, 5, 5, 5, 5, 5, 5]),
  .inl (0, [0, 0, 0, 0, 0, 0, 0, 0]),
  .inl (0, [0, 0, 0, 0, 0, 0, 0, 0]),
  .inl (0, [0, 0, 0, 0, 0, 0, 0, 0]),
  .inl (0, [0, 0, 0, 0, 0, 0, 0, 0]),
  .inl (0, [0, 0, 0, 0, 0, 0, 0, 0]),
  .inl (1, [0, 0, 0, 0, 0, 0, 0, 0]),
  .inl (0, [0, 0, 0, 0, 0, 0, 0, 0]),
  .inr (4, [.ref 43, .ref 44, .ref 45, .ref 46, .ref 47, .ref 48, .ref 49, .ref 50, .int 1, .int 0, .int 0, .null, .null]),
  .inl (0, [5, 5, 5, 5, 5, 5, 5, 5]),
  .inl (0, [0, 0, 0, 0, 0, 0, 0, 0]),
  .inl (0, [0, 0, 0, 0, 0, 0, 0, 0]),
  .inl (0, [0, 0, 0, 0, 0, 0, 0, 0]),
  .inl (0, [0, 0, 0, 0, 0, 0, 0, 0]),
  .inl (0, [0, 0, 0, 0, 0, 0, 0, 0]),
  .inl (1, [0, 0, 0, 0, 0, 0, 0, 0]),
  .inl (0, [0, 0, 0, 0, 0, 0, 0, 0]),
  .inr (4, [.ref 52, .ref 53, .ref 54, .ref 55, .ref 56, .ref 57, .ref 58, .ref 59, .int 1, .int 0, .int 0, .null, .null]),
  .inl (0, [5, 5, 5, 5, 5, 5, 5, 5]),
  .inl (0, [0, 0, 0, 0, 0, 0, 0, 0]),
  .inl (0, [0, 0, 0, 0, 0, 0, 0, 0]),
  .inl (0, [0, 0, 0, 0, 0, 0, 0, 0]),
  .inl (0, [0, 0, 0, 0, 0, 0, 0, 0]),
  .inl (0, [0, 0, 0, 0, 0, 0, 0, 0]),
  .inl (1, [0, 0, 0, 0, 0, 0, 0, 0]),
  .inl (0, [0, 0, 0, 0, 0, 0, 0, 0]),
  .inr (4, [.ref 61, .ref 62, .ref 63, .ref 64, .ref 65, .ref 66, .ref 67, .ref 68, .int 1, .int 0, .int 0, .null, .null]),
  .inl (0, [5, 5, 5, 5, 5, 5, 5, 5]),
  .inl (0, [0, 0, 0, 0, 0, 0, 0, 0]),
  .inl (0, [0, 0, 0, 0, 0, 0, 0, 0]),
  .inl (0, [0, 0, 0, 0, 0, 0, 0, 0]),
  .inl (0, [0, 0, 0, 0, 0, 0, 0, 0]),
  .inl (0, [0, 0, 0, 0, 0, 0, 0, 0]),
  .inl (1, [0, 0, 0, 0, 0, 0, 0, 0]),
  .inl (0, [0, 0, 0, 0, 0, 0, 0, 0]),
  .inr (0, [.int 1, .ref 70, .int 0, .ref 71, .int 0]),
  .inl (0, List.replicate 50 0),
  .inl (0, List.replicate 20 0),
  .inr (0, [.int 1, .ref 73, .int 0, .ref 74, .int 0]),
  .inl (0, List.replicate 50 0),
  .inl (0, List.replicate 20 0),
  .inr (2, [.ref 76, .int 0, .ref 70, .int 0, .ref 3, .int 0, .int (-1)]),
  .inl (0, List.replicate 50 0),
  .inr (5, [.int 0, .int 0, .int 0, .ref 78, .int 0]),
  .inl (0, List.replicate 40 0),
  .inr (50, [.ref 80, .ref 82, .null, .null]),
  .inr (3, [.int 0, .int 0, .ref 81]),
  .inl (0, List.replicate 40 0),
  .inr (3, [.int 0, .int 0, .ref 83]),
  .inl (0, List.replicate 40 0),
  .inr (3, [.int 0, .int 0, .ref 85]),
  .inl (0, List.replicate 40 0)]
def hq_30 : AH := [.inr (6, [.ref 33, .ref 42, .ref 51, .ref 60, .ref 69, .ref 72, .int 0, .ref 75, .ref 77, .null, .null]),
  .inr (4, [.ref 34, .ref 35, .ref 36, .ref 37, .ref 38, .ref 39, .ref 40, .ref 41, .int 1, .int 0, .int 0, .null, .null]),
  .inl (0, [5, 5, 5, 5, 5, 5, 5, 5]),
  .inl (0, [0, 0, 0, 0, 0, 0, 0, 0]),
  .inl (0, [0, 0, 0, 0, 0, 0, 0, 0]),
  .inl (0, [0, 0, 0, 0, 0, 0, 0, 0]),
  .inl (0, [0, 0, 0, 0, 0, 0, 0, 0]),
  .inl (0, [0, 0, 0, 0, 0, 0, 0, 0]),
  .inl (1, [0, 0, 0, 0, 0, 0, 0, 0]),
  .inl (0, [0, 0, 0, 0, 0, 0, 0, 0]),
  .inr (4, [.ref 43, .ref 44, .ref 45, .ref 46, .ref 47, .ref 48, .ref 49, .ref 50, .int 1, .int 0, .int 0, .null, .null]),
  .inl (0, [5, 5, 5, 5, 5, 5, 5, 5]),
  .inl (0, [0, 0, 0, 0, 0, 0, 0, 0]),
  .inl (0, [0, 0, 0, 0, 0, 0, 0, 0]),
  .inl (0, [0, 0, 0, 0, 0, 0, 0, 0]),
  .inl (0, [0, 0, 0, 0, 0, 0, 0, 0]),
  .inl (0, [0, 0, 0, 0, 0, 0, 0, 0]),
  .inl (1, [0, 0, 0, 0, 0, 0, 0, 0]),
  .inl (0, [0, 0, 0, 0, 0, 0, 0, 0]),
  .inr (4, [.ref 52, .ref 53, .ref 54, .ref 55, .ref 56, .ref 57, .ref 58, .ref 59, .int 1, .int 0, .int 0, .null, .null]),
  .inl (0, [5, 5, 5, 5, 5, 5, 5, 5]),
  .inl (0, [0, 0, 0, 0, 0, 0, 0, 0]),
  .inl (0, [0, 0, 0, 0, 0, 0, 0, 0]),
  .inl (0, [0, 0, 0, 0, 0, 0, 0, 0]),
  .inl (0, [0, 0, 0, 0, 0, 0, 0, 0]),
  .inl (0, [0, 0, 0, 0, 0, 0, 0, 0]),
  .inl (1, [0, 0, 0, 0, 0, 0, 0, 0]),
  .inl (0, [0, 0, 0, 0, 0, 0, 0, 0]),
  .inr (4, [.ref 61, .ref 62, .ref 63, .ref 64, .ref 65, .ref 66, .ref 67, .ref 68, .int 1, .int 0, .int 0, .null, .null]),
  .inl (0, [5, 5, 5, 5, 5, 5, 5, 5]),
  .inl (0, [0, 0, 0, 0, 0, 0, 0, 0]),
  .inl (0, [0, 0, 0, 0, 0, 0, 0, 0]),
  .inl (0, [0, 0, 0, 0, 0, 0, 0, 0]),
  .inl (0, [0, 0, 0, 0, 0, 0, 0, 0]),
  .inl (0, [0, 0, 0, 0, 0, 0, 0, 0]),
  .inl (1, [0, 0, 0, 0, 0, 0, 0, 0]),
  .inl (0, [0, 0, 0, 0, 0, 0, 0, 0]),
  .inr (0, [.int 1, .ref 70, .int 0, .ref 71, .int 0]),
  .inl (0, List.replicate 50 0),
  .inl (0, List.replicate 20 0),
  .inr (0, [.int 1, .ref 73, .int 0, .ref 74, .int 0]),
  .inl (0, List.replicate 50 0),
  .inl (0, List.replicate 20 0),
  .inr (2, [.ref 76, .int 0, .ref 70, .int 0, .ref 3, .int 0, .int (-1)]),
  .inl (0, List.replicate 50 0),
  .inr (5, [.int 0, .int 0, .int 0, .ref 78, .int 0]),
  .inl (0, List.replicate 40 0),
  .inr (50, [.ref 80, .ref 82, .ref 84, .null]),
  .inr (3, [.int 0, .int 0, .ref 81]),
  .inl (0, List.replicate 40 0),
  .inr (3, [.int 0, .int 0, .ref 83]),
  .inl (0, List.replicate 40 0),
  .inr (3, [.int 0, .int 0, .ref 85]),
  .inl (0, List.replicate 40 0),
  .inr (3, [.int 0, .int 0, .null])]
def hq_31 : AH := [.inr (6, [.ref 33, .ref 42, .ref 51, .ref 60, .ref 69, .ref 72, .int 0, .ref 75, .ref 77, .null, .null]),
  .inr (4, [.ref 34, .ref 35, .ref 36, .ref 37, .ref 38, .ref 39, .ref 40, .ref 41, .int 1, .int 0, .int 0, .null, .null]),
  .inl (0, [5, 5, 5, 5, 5, 5, 5, 5]),
  .inl (0, [0, 0, 0, 0, 0, 0, 0, 0]),
  .inl (0, [0, 0, 0, 0, 0, 0, 0, 0]),
  .inl (0, [0, 0, 0, 0, 0, 0, 0, 0]),
  .inl (0, [0, 0, 0, 0, 0, 0, 0, 0]),
  .inl (0, [0, 0, 0, 0, 0, 0, 0, 0]),
  .inl (1, [0, 0, 0, 0, 0, 0, 0, 0]),
  .inl (0, [0, 0, 0, 0, 0, 0, 0, 0]),
  .inr (4, [.ref 43, .ref 44, .ref 45, .ref 46, .ref 47, .ref 48, .ref 49, .ref 50, .int 1, .int 0, .int 0, .null, .null]),
  .inl (0, [5, 5, 5, 5, 5, 5, 5, 5]),
  .inl (0, [0, 0, 0, 0, 0, 0, 0, 0]),
  .inl (0, [0, 0, 0, 0, 0, 0, 0, 0]),
  .inl (0, [0, 0, 0, 0, 0, 0, 0, 0]),
  .inl (0, [0, 0, 0, 0, 0, 0, 0, 0]),
  .inl (0, [0, 0, 0, 0, 0, 0, 0, 0]),
  .inl (1, [0, 0, 0, 0, 0, 0, 0, 0]),
  .inl (0, [0, 0, 0, 0, 0, 0, 0, 0]),
  .inr (4, [.ref 52, .ref 53, .ref 54, .ref 55, .ref 56, .ref 57, .ref 58, .ref 59, .int 1, .int 0, .int 0, .null, .null]),
  .inl (0, [5, 5, 5, 5, 5, 5, 5, 5]),
  .inl (0, [0, 0, 0, 0, 0, 0, 0, 0]),
  .inl (0, [0, 0, 0, 0, 0, 0, 0, 0]),
  .inl (0, [0, 0, 0, 0, 0, 0, 0, 0]),
  .inl (0, [0, 0, 0, 0, 0, 0, 0, 0]),
  .inl (0, [0, 0, 0, 0, 0, 0, 0, 0]),
  .inl (1, [0, 0, 0, 0, 0, 0, 0, 0]),
  .inl (0, [0, 0, 0, 0, 0, 0, 0, 0]),
  .inr (4, [.ref 61, .ref 62, .ref 63, .ref 64, .ref 65, .ref 66, .ref 67, .ref 68, .int 1, .int 0, .int 0, .null, .null]),
  .inl (0, [5, 5, 5, 5, 5, 5, 5, 5]),
  .inl (0, [0, 0, 0, 0, 0, 0, 0, 0]),
  .inl (0, [0, 0, 0, 0, 0, 0, 0, 0]),
  .inl (0, [0, 0, 0, 0, 0, 0, 0, 0]),
  .inl (0, [0, 0, 0, 0, 0, 0, 0, 0]),
  .inl (0, [0, 0, 0, 0, 0, 0, 0, 0]),
  .inl (1, [0, 0, 0, 0, 0, 0, 0, 0]),
  .inl (0, [0, 0, 0, 0, 0, 0, 0, 0]),
  .inr (0, [.int 1, .ref 70, .int 0, .ref 71, .int 0]),
  .inl (0, List.replicate 50 0),
  .inl (0, List.replicate 20 0),
  .inr (0, [.int 1, .ref 73, .int 0, .ref 74, .int 0]),
  .inl (0, List.replicate 50 0),
  .inl (0, List.replicate 20 0),
  .inr (2, [.ref 76, .int 0, .ref 70, .int 0, .ref 3, .int 0, .int (-1)]),
  .inl (0, List.replicate 50 0),
  .inr (5, [.int 0, .int 0, .int 0, .ref 78, .int 0]),
  .inl (0, List.replicate 40 0),
  .inr (50, [.ref 80, .ref 82, .ref 84, .null]),
  .inr (3, [.int 0, .int 0, .ref 81]),
  .inl (0, List.replicate 40 0),
  .inr (3, [.int 0, .int 0, .ref 83]),
  .inl (0, List.replicate 40 0),
  .inr (3, [.int 0, .int 0, .ref 85]),
  .inl (0, List.replicate 40 0),
  .inr (3, [.int 0, .int 0, .ref 87]),
  .inl (0, List.replicate 40 0)]
def hq_32 : AH := [.inr (6, [.ref 33, .ref 42, .ref 51, .ref 60, .ref 69, .ref 72, .int 0, .ref 75, .ref 77, .ref 79, .ref 88]),
  .inr (4, [.ref 34, .ref 35, .ref 36, .ref 37, .ref 38, .ref 39, .ref 40, .ref 41, .int 1, .int 0, .int 0, .null, .null]),
  .inl (0, [5, 5, 5, 5, 5, 5, 5, 5]),
  .inl (0, [0, 0, 0, 0, 0, 0, 0, 0]),
  .inl (0, [0, 0, 0, 0, 0, 0, 0, 0]),
  .inl (0, [0, 0, 0, 0, 0, 0, 0, 0]),
  .inl (0, [0, 0, 0, 0, 0, 0, 0, 0]),
  .inl (0, [0, 0, 0, 0, 0, 0, 0, 0]),
  .inl (1, [0, 0, 0, 0, 0, 0, 0, 0]),
  .inl (0, [0, 0, 0, 0, 0, 0, 0, 0]),
  .inr (4, [.ref 43, .ref 44, .ref 45, .ref 46, .ref 47, .ref 48, .ref 49, .ref 50, .int 1, .int 0, .int 0, .null, .null]),
  .inl (0, [5, 5, 5, 5, 5, 5, 5, 5]),
  .inl (0, [0, 0, 0, 0, 0, 0, 0, 0]),
  .inl (0, [0, 0, 0, 0, 0, 0, 0, 0]),
  .inl (0, [0, 0, 0, 0, 0, 0, 0, 0]),
  .inl (0, [0, 0, 0, 0, 0, 0, 0, 0]),
  .inl (0, [0, 0, 0, 0, 0, 0, 0, 0]),
  .inl (1, [0, 0, 0, 0, 0, 0, 0, 0]),
  .inl (0, [0, 0, 0, 0, 0, 0, 0, 0]),
  .inr (4, [.ref 52, .ref 53, .ref 54, .ref 55, .ref 56, .ref 57, .ref 58, .ref 59, .int 1, .int 0, .int 0, .null, .null]),
  .inl (0, [5, 5, 5, 5, 5, 5, 5, 5]),
  .inl (0, [0, 0, 0, 0, 0, 0, 0, 0]),
  .inl (0, [0, 0, 0, 0, 0, 0, 0, 0]),
  .inl (0, [0, 0, 0, 0, 0, 0, 0, 0]),
  .inl (0, [0, 0, 0, 0, 0, 0, 0, 0]),
  .inl (0, [0, 0, 0, 0, 0, 0, 0, 0]),
  .inl (1, [0, 0, 0, 0, 0, 0, 0, 0]),
  .inl (0, [0, 0, 0, 0, 0, 0, 0, 0]),
  .inr (4, [.ref 61, .ref 62, .ref 63, .ref 64, .ref 65, .ref 66, .ref 67, .ref 68, .int 1, .int 0, .int 0, .null, .null]),
  .inl (0, [5, 5, 5, 5, 5, 5, 5, 5]),
  .inl (0, [0, 0, 0, 0, 0, 0, 0, 0]),
  .inl (0, [0, 0, 0, 0, 0, 0, 0, 0]),
  .inl (0, [0, 0, 0, 0, 0, 0, 0, 0]),
  .inl (0, [0, 0, 0, 0, 0, 0, 0, 0]),
  .inl (0, [0, 0, 0, 0, 0, 0, 0, 0]),
  .inl (1, [0, 0, 0, 0, 0, 0, 0, 0]),
  .inl (0, [0, 0, 0, 0, 0, 0, 0, 0]),
  .inr (0, [.int 1, .ref 70, .int 0, .ref 71, .int 0]),
  .inl (0, List.replicate 50 0),
  .inl (0, List.replicate 20 0),
  .inr (0, [.int 1, .ref 73, .int 0, .ref 74, .int 0]),
  .inl (0, List.replicate 50 0),
  .inl (0, List.replicate 20 0),
  .inr (2, [.ref 76, .int 0, .ref 70, .int 0, .ref 3, .int 0, .int (-1)]),
  .inl (0, List.replicate 50 0),
  .inr (5, [.int 0, .int 0, .int 0, .ref 78, .int 0]),
  .inl (0, List.replicate 40 0),
  .inr (50, [.ref 80, .ref 82, .ref 84, .ref 86]),
  .inr (3, [.int 0, .int 0, .ref 81]),
  .inl (0, List.replicate 40 0),
  .inr (3, [.int 0, .int 0, .ref 83]),
  .inl (0, List.replicate 40 0),
  .inr (3, [.int 0, .int 0, .ref 85]),
  .inl (0, List.replicate 40 0),
  .inr (3, [.int 0, .int 0, .ref 87]),
  .inl (0, List.replicate 40 0),
  .inl (0, [0, 0, 0, 0, 0, 0]),
  .inr (7, [.ref 90, .ref 91, .ref 92, .ref 93, .int 0, .int 0, .ref 94, .int 0, .int 0, .int 0, .int 0, .int 0, .int 0, .int 0, .int 0, .null, .null, .null, .null, .null, .null, .int 0, .int 0, .int 0, .int 0]),
  .inl (0, List.replicate 234 0),
  .inl (0, List.replicate 234 0),
  .inl (0, List.replicate 234 0),
  .inl (0, List.replicate 234 0),
  .inl (0, [0, 0, 0, 0, 0, 0])]
def hq_33 : AH := [.inr (6, [.ref 33, .ref 42, .ref 51, .ref 60, .ref 69, .ref 72, .int 0, .ref 75, .ref 77, .ref 79, .ref 88]),
  .inr (4, [.ref 34, .ref 35, .ref 36, .ref 37, .ref 38, .ref 39, .ref 40, .ref 41, .int 1, .int 0, .int 0, .null, .null]),
  .inl (0, [5, 5, 5, 5, 5, 5, 5, 5]),
  .inl (0, [0, 0, 0, 0, 0, 0, 0, 0]),
  .inl (0, [0, 0, 0, 0, 0, 0, 0, 0]),
  .inl (0, [0, 0, 0, 0, 0, 0, 0, 0]),
  .inl (0, [0, 0, 0, 0, 0, 0, 0, 0]),
  .inl (0, [0, 0, 0, 0, 0, 0, 0, 0]),
  .inl (1, [0, 0, 0, 0, 0, 0, 0, 0]),
  .inl (0, [0, 0, 0, 0, 0, 0, 0, 0]),
  .inr (4, [.ref 43, .ref 44, .ref 45, .ref 46, .ref 47, .ref 48, .ref 49, .ref 50, .int 1, .int 0, .int 0, .null, .null]),
  .inl (0, [5, 5, 5, 5, 5, 5, 5, 5]),
  .inl (0, [0, 0, 0, 0, 0, 0, 0, 0]),
  .inl (0, [0, 0, 0, 0, 0, 0, 0, 0]),
  .inl (0, [0, 0, 0, 0, 0, 0, 0, 0]),
  .inl (0, [0, 0, 0, 0, 0, 0, 0, 0]),
  .inl (0, [0, 0, 0, 0, 0, 0, 0, 0]),
  .inl (1, [0, 0, 0, 0, 0, 0, 0, 0]),
  .inl (0, [0, 0, 0, 0, 0, 0, 0, 0]),
  .inr (4, [.ref 52, .ref 53, .ref 54, .ref 55, .ref 56, .ref 57, .ref 58, .ref 59, .int 1, .int 0, .int 0, .null, .null]),
  .inl (0, [5, 5, 5, 5, 5, 5, 5, 5]),
  .inl (0, [0, 0, 0, 0, 0, 0, 0, 0]),
  .inl (0, [0, 0, 0, 0, 0, 0, 0, 0]),
  .inl (0, [0, 0, 0, 0, 0, 0, 0, 0]),
  .inl (0, [0, 0, 0, 0, 0, 0, 0, 0]),
  .inl (0, [0, 0, 0, 0, 0, 0, 0, 0]),
  .inl (1, [0, 0, 0, 0, 0, 0, 0, 0]),
  .inl (0, [0, 0, 0, 0, 0, 0, 0, 0]),
  .inr (4, [.ref 61, .ref 62, .ref 63, .ref 64, .ref 65, .ref 66, .ref 67, .ref 68, .int 1, .int 0, .int 0, .null, .null]),
  .inl (0, [5, 5, 5, 5, 5, 5, 5, 5]),
  .inl (0, [0, 0, 0, 0, 0, 0, 0, 0]),
  .inl (0, [0, 0, 0, 0, 0, 0, 0, 0]),
  .inl (0, [0, 0, 0, 0, 0, 0, 0, 0]),
  .inl (0, [0, 0, 0, 0, 0, 0, 0, 0]),
  .inl (0, [0, 0, 0, 0, 0, 0, 0, 0]),
  .inl (1, [0, 0, 0, 0, 0, 0, 0, 0]),
  .inl (0, [0, 0, 0, 0, 0, 0, 0, 0]),
  .inr (0, [.int 1, .ref 70, .int 0, .ref 71, .int 0]),
  .inl (0, List.replicate 50 0),
  .inl (0, List.replicate 20 0),
  .inr (0, [.int 1, .ref 73, .int 0, .ref 74, .int 0]),
  .inl (0, List.replicate 50 0),
  .inl (0, List.replicate 20 0),
  .inr (2, [.ref 76, .int 0, .ref 70, .int 0, .ref 3, .int 0, .int (-1)]),
  .inl (0, List.replicate 50 0),
  .inr (5, [.int 0, .int 0, .int 0, .ref 78, .int 0]),
  .inl (0, List.replicate 40 0),
  .inr (50, [.ref 80, .ref 82, .ref 84, .ref 86]),
  .inr (3, [.int 0, .int 0, .ref 81]),
  .inl (0, List.replicate 40 0),
  .inr (3, [.int 0, .int 0, .ref 83]),
  .inl (0, List.replicate 40 0),
  .inr (3, [.int 0, .int 0, .ref 85]),
  .inl (0, List.replicate 40 0),
  .inr (3, [.int 0, .int 0, .ref 87]),
  .inl (0, List.replicate 40 0),
  .inl (0, [0, 0, 0, 0, 0, 0]),
  .inr (7, [.ref 90, .ref 91, .ref 92, .ref 93, .int 0, .int 0, .ref 94, .int 0, .int 0, .int 0, .int 0, .int 0, .int 0, .int 0, .int 0, .ref 95, .ref 96, .ref 97, .ref 98, .ref 99, .null, .int 0, .int 0, .int 0, .int 0]),
  .inl (0, List.replicate 234 0),
  .inl (0, List.replicate 234 0),
  .inl (0, List.replicate 234 0),
  .inl (0, List.replicate 234 0),
  .inl (0, [0, 0, 0, 0, 0, 0]),
  .inl (0, [0, 0, 0, 0]),
  .inl (0, [0, 0, 0, 0]),
  .inl (0, List.replicate 160 0),
  .inl (0, List.replicate 40 0),
  .inl (0, [0, 0, 0, 0, 0, 0, 0, 0])]
def hq_34 : AH := [.inr (6, [.ref 33, .ref 42, .ref 51, .ref 60, .ref 69, .ref 72, .int 0, .ref 75, .ref 77, .ref 79, .ref 88]),
  .inr (4, [.ref 34, .ref 35, .ref 36, .ref 37, .ref 38, .ref 39, .ref 40, .ref 41, .int 1, .int 0, .int 0, .null, .null]),
  .inl (0, [5, 5, 5, 5, 5, 5, 5, 5]),
  .inl (0, [0, 0, 0, 0, 0, 0, 0, 0]),
  .inl (0, [0, 0, 0, 0, 0, 0, 0, 0]),
  .inl (0, [0, 0, 0, 0, 0, 0, 0, 0]),
  .inl (0, [0, 0, 0, 0, 0, 0, 0, 0]),
  .inl (0, [0, 0, 0, 0, 0, 0, 0, 0]),
  .inl (1, [0, 0, 0, 0, 0, 0, 0, 0]),
  .inl (0, [0, 0, 0, 0, 0, 0, 0, 0]),
  .inr (4, [.ref 43, .ref 44, .ref 45, .ref 46, .ref 47, .ref 48, .ref 49, .ref 50, .int 1, .int 0, .int 0, .null, .null]),
  .inl (0, [5, 5, 5, 5, 5, 5, 5, 5]),
  .inl (0, [0, 0, 0, 0, 0, 0, 0, 0]),
  .inl (0, [0, 0, 0, 0, 0, 0, 0, 0]),
  .inl (0, [0, 0, 0, 0, 0, 0, 0, 0]),
  .inl (0, [0, 0, 0, 0, 0, 0, 0, 0]),
  .inl (0, [0, 0, 0, 0, 0, 0, 0, 0]),
  .inl (1, [0, 0, 0, 0, 0, 0, 0, 0]),
  .inl (0, [0, 0, 0, 0, 0, 0, 0, 0]),
  .inr (4, [.ref 52, .ref 53, .ref 54, .ref 55, .ref 56, .ref 57, .ref 58, .ref 59, .int 1, .int 0, .int 0, .null, .null]),
  .inl (0, [5, 5, 5, 5, 5, 5, 5, 5]),
  .inl (0, [0, 0, 0, 0, 0, 0, 0, 0]),
  .inl (0, [0, 0, 0, 0, 0, 0, 0, 0]),
  .inl (0, [0, 0, 0, 0, 0, 0, 0, 0]),
  .inl (0, [0, 0, 0, 0, 0, 0, 0, 0]),
  .inl (0, [0, 0, 0, 0, 0, 0, 0, 0]),
  .inl (1, [0, 0, 0, 0, 0, 0, 0, 0]),
  .inl (0, [0, 0, 0, 0, 0, 0, 0, 0]),
  .inr (4, [.ref 61, .ref 62, .ref 63, .ref 64, .ref 65, .ref 66, .ref 67, .ref 68, .int 1, .int 0, .int 0, .null, .null]),
  .inl (0, [5, 5, 5, 5, 5, 5, 5, 5]),
  .inl (0, [0, 0, 0, 0, 0, 0, 0, 0]),
  .inl (0, [0, 0, 0, 0, 0, 0, 0, 0]),
  .inl (0, [0, 0, 0, 0, 0, 0, 0, 0]),
  .inl (0, [0, 0, 0, 0, 0, 0, 0, 0]),
  .inl (0, [0, 0, 0, 0, 0, 0, 0, 0]),
  .inl (1, [0, 0, 0, 0, 0, 0, 0, 0]),
  .inl (0, [0, 0, 0, 0, 0, 0, 0, 0]),
  .inr (0, [.int 1, .ref 70, .int 0, .ref 71, .int 0]),
  .inl (0, List.replicate 50 0),
  .inl (0, List.replicate 20 0),
  .inr (0, [.int 1, .ref 73, .int 0, .ref 74, .int 0]),
  .inl (0, List.replicate 50 0),
  .inl (0, List.replicate 20 0),
  .inr (2, [.ref 76, .int 0, .ref 70, .int 0, .ref 3, .int 0, .int (-1)]),
  .inl (0, List.replicate 50 0),
  .inr (5, [.int 0, .int 0, .int 0, .ref 78, .int 0]),
  .inl (0, List.replicate 40 0),
  .inr (50, [.ref 80, .ref 82, .ref 84, .ref 86]),
  .inr (3, [.int 0, .int 0, .ref 81]),
  .inl (0, List.replicate 40 0),
  .inr (3, [.int 0, .int 0, .ref 83]),
  .inl (0, List.replicate 40 0),
  .inr (3, [.int 0, .int 0, .ref 85]),
  .inl (0, List.replicate 40 0),
  .inr (3, [.int 0, .int 0, .ref 87]),
  .inl (0, List.replicate 40 0),
  .inl (0, [0, 0, 0, 0, 0, 0]),
  .inr (7, [.ref 90, .ref 91, .ref 92, .ref 93, .int 0, .int 0, .ref 94, .int 0, .int 0, .int 0, .int 0, .int 0, .int 0, .int 0, .int 0, .ref 95, .ref 96, .ref 97, .ref 98, .ref 99, .ref 100, .int 0, .int 0, .int 0, .int 0]),
  .inl (0, [0, 1, 0, 0, 0, -1, -1, 1, 5, 5, 5, 5, 0, 0, 0, 0, 0, 0, 0, 0, 0, 0, 0, 0, 0, 0, 0, 0, 0, 0, 0, 0, 0, 0, 0, 0, 0, 0, 0, 0, 0, 0, 0, 0, 0, 0, 0, 0, 0, 0, 0, 0, 0, 0, 0, 0, 0, 0, 0, 0, 0, 0, 0, 0, 0, 0, 0, 0, 0, 0, 0, 0, 0, 0, 0, 0, 0, 0, 0, 0, 0, 0, 0, 0, 0, 0, 0, 0, 0, 0, 0, 0, 0, 0, 0, 0, 0, 0, 0, 0, 0, 0, 0, 0, 0, 0, 0, 0, 0, 0, 0, 0, 0, 0, 0, 0, 0, 0, 0, 0, 0, 0, 0, 0, 0, 0, 0, 0, 0, 0, 0, 0, 0, 0, 0, 0, 0, 0, 0, 0, 0, 0, 0, 0, 0, 0, 0, 0, 0, 0, 0, 0, 0, 0, 0, 0, 0, 0, 0, 0, 0, 0, 0, 0, 0, 0, 0, 0, 0, 0, 0, 0, 0, 0, 0, 0, 0, 0, 0, 0, 0, 0, 0, 0, 0, 0, 0, 0, 0, 0, 0, 0, 0, 0, 0, 0, 0, 0, 0, 0, 0, 0, 0, 0, 0, 0, 0, 0, 0, 0, 0, 0, 0, 0, 0, 0, 0, 0, 0, 0, 0, 0, 0, 0, 0, 0, 0, 0, 0, 0, 0, 0, 0, 0]),
  .inl (0, List.replicate 234 0),
  .inl (0, List.replicate 234 0),
  .inl (0, List.replicate 234 0),
  .inl (0, [0, 0, 0, 0, 0, 0]),
  .inl (0, [0, 0, 0, 0]),
  .inl (0, [0, 0, 0, 0]),
  .inl (0, List.replicate 160 0),
  .inl (0, List.replicate 40 0),
  .inl (0, [0, 0, 0, 0, 0, 0, 0, 0]),
  .inl (0, List.replicate 40 0)]
def hX0 : AH := [.inr (6, [.ref 33, .ref 42, .ref 51, .ref 60, .ref 69, .ref 72, .int 0, .ref 75, .ref 77, .ref 79, .ref 88]),
  .inr (4, [.ref 34, .ref 35, .ref 36, .ref 37, .ref 38, .ref 39, .ref 40, .ref 41, .int 1, .int 0, .int 0, .null, .null]),
  .inl (0, [5, 5, 5, 5, 5, 5, 5, 5]),
  .inl (0, [0, 0, 0, 0, 0, 0, 0, 0]),
  .inl (0, [0, 0, 0, 0, 0, 0, 0, 0]),
  .inl (0, [0, 0, 0, 0, 0, 0, 0, 0]),
  .inl (0, [0, 0, 0, 0, 0, 0, 0, 0]),
  .inl (0, [0, 0, 0, 0, 0, 0, 0, 0]),
  .inl (1, [0, 0, 0, 0, 0, 0, 0, 0]),
  .inl (0, [0, 0, 0, 0, 0, 0, 0, 0]),
  .inr (4, [.ref 43, .ref 44, .ref 45, .ref 46, .ref 47, .ref 48, .ref 49, .ref 50, .int 1, .int 0, .int 0, .null, .null]),
  .inl (0, [5, 5, 5, 5, 5, 5, 5, 5]),
  .inl (0, [0, 0, 0, 0, 0, 0, 0, 0]),
  .inl (0, [0, 0, 0, 0, 0, 0, 0, 0]),
  .inl (0, [0, 0, 0, 0, 0, 0, 0, 0]),
  .inl (0, [0, 0, 0, 0, 0, 0, 0, 0]),
  .inl (0, [0, 0, 0, 0, 0, 0, 0, 0]),
  .inl (1, [0, 0, 0, 0, 0, 0, 0, 0]),
  .inl (0, [0, 0, 0, 0, 0, 0, 0, 0]),
  .inr (4, [.ref 52, .ref 53, .ref 54, .ref 55, .ref 56, .ref 57, .ref 58, .ref 59, .int 1, .int 0, .int 0, .null, .null]),
  .inl (0, [5, 5, 5, 5, 5, 5, 5, 5]),
  .inl (0, [0, 0, 0, 0, 0, 0, 0, 0]),
  .inl (0, [0, 0, 0, 0, 0, 0, 0, 0]),
  .inl (0, [0, 0, 0, 0, 0, 0, 0, 0]),
  .inl (0, [0, 0, 0, 0, 0, 0, 0, 0]),
  .inl (0, [0, 0, 0, 0, 0, 0, 0, 0]),
  .inl (1, [0, 0, 0, 0, 0, 0, 0, 0]),
  .inl (0, [0, 0, 0, 0, 0, 0, 0, 0]),
  .inr (4, [.ref 61, .ref 62, .ref 63, .ref 64, .ref 65, .ref 66, .ref 67, .ref 68, .int 1, .int 0, .int 0, .null, .null]),
  .inl (0, [5, 5, 5, 5, 5, 5, 5, 5]),
  .inl (0, [0, 0, 0, 0, 0, 0, 0, 0]),
  .inl (0, [0, 0, 0, 0, 0, 0, 0, 0]),
  .inl (0, [0, 0, 0, 0, 0, 0, 0, 0]),
  .inl (0, [0, 0, 0, 0, 0, 0, 0, 0]),
  .inl (0, [0, 0, 0, 0, 0, 0, 0, 0]),
  .inl (1, [0, 0, 0, 0, 0, 0, 0, 0]),
  .inl (0, [0, 0, 0, 0, 0, 0, 0, 0]),
  .inr (0, [.int 1, .ref 70, .int 0, .ref 71, .int 0]),
  .inl (0, List.replicate 50 0),
  .inl (0, List.replicate 20 0),
  .inr (0, [.int 1, .ref 73, .int 0, .ref 74, .int 0]),
  .inl (0, List.replicate 50 0),
  .inl (0, List.replicate 20 0),
  .inr (2, [.ref 76, .int 0, .ref 70, .int 0, .ref 3, .int 0, .int (-1)]),
  .inl (0, List.replicate 50 0),
  .inr (5, [.int 0, .int 0, .int 0, .ref 78, .int 0]),
  .inl (0, List.replicate 40 0),
  .inr (50, [.ref 80, .ref 82, .ref 84, .ref 86]),
  .inr (3, [.int 0, .int 0, .ref 81]),
  .inl (0, List.replicate 40 0),
  .inr (3, [.int 0, .int 0, .ref 83]),
  .inl (0, List.replicate 40 0),
  .inr (3, [.int 0, .int 0, .ref 85]),
  .inl (0, List.replicate 40 0),
  .inr (3, [.int 0, .int 0, .ref 87]),
  .inl (0, List.replicate 40 0),
  .inl (0, [0, 0, 0, 0, 0, 0])]
def hM0 : AH := [.inr (7, [.ref 90, .ref 91, .ref 92, .ref 93, .int 0, .int 0, .ref 94, .int 0, .int 0, .int 0, .int 0, .int 0, .int 0, .int 0, .int 0, .ref 95, .ref 96, .ref 97, .ref 98, .ref 99, .ref 100, .int 0, .int 0, .int 0, .int 0]),
  .inl (0, [0, 1, 0, 0, 0, -1, -1, 1, 5, 5, 5, 5, 5, 5, 5, 5, 0, 0, 0, 0, 0, 0, 0, 0, 0, 0, 0, 0, 0, 0, 0, 0, 0, 0, 0, 0, 0, 0, 0, 0, 0, 0, 0, 0, 0, 0, 0, 0, 0, 0, 0, 0, 0, 0, 0, 0, 0, 0, 0, 0, 0, 0, 0, 0, 0, 0, 0, 0, 0, 0, 0, 0, 0, 0, 0, 0, 0, 0, 0, 0, 0, 0, 0, 0, 0, 0, 0, 0, 0, 0, 0, 0, 0, 0, 0, 0, 0, 0, 0, 0, 0, 0, 0, 0, 0, 0, 0, 0, 0, 0, 0, 0, 0, 0, 0, 0, 0, 0, 0, 0, 0, 0, 0, 0, 0, 0, 0, 0, 0, 0, 0, 0, 0, 0, 0, 0, 0, 0, 0, 0, 0, 0, 0, 0, 0, 0, 0, 0, 0, 0, 0, 0, 0, 0, 0, 0, 0, 0, 0, 0, 0, 0, 0, 0, 0, 0, 0, 0, 0, 0, 0, 0, 0, 0, 0, 0, 0, 0, 0, 0, 0, 0, 0, 0, 0, 0, 0, 0, 0, 0, 0, 0, 0, 0, 0, 0, 0, 0, 0, 0, 0, 0, 0, 0, 0, 0, 0, 0, 0, 0, 0, 0, 0, 0, 0, 0, 0, 0, 0, 0, 0, 0, 0, 0, 0, 0, 0, 0, 0, 0, 0, 0, 0, 0]),
  .inl (0, List.replicate 234 0),
  .inl (0, List.replicate 234 0),
  .inl (0, List.replicate 234 0),
  .inl (0, [0, 0, 0, 0, 0, 0]),
  .inl (0, [0, 0, 0, 0]),
  .inl (0, [0, 0, 0, 0]),
  .inl (0, List.replicate 160 0),
  .inl (0, List.replicate 40 0),
  .inl (0, [0, 0, 0, 0, 0, 0, 0, 0]),
  .inl (0, List.replicate 40 0)]
theorem WPh {xs : List Int32} {d a mc ms : Nat} {as : List Value} {h h' : AH} {Q : QT} (e : h = h') (g : WP xs d a mc ms as h' Q) : WP xs d a mc ms as h Q := by
  rw [e]
  exact g
set_option maxRecDepth 20000 in
set_option maxHeartbeats 4000000 in
theorem c_sub_0 {xs : List Int32} {d : Nat} {Q : QT} (hQ : Q none hq_3) : WP xs (d + 1) 30 8 64 [.ref 33] hq_0 Q := by
  refine and_i (Nat.le_of_ble_eq_true rfl) ?_
  refine gs rfl ?_
  refine gs rfl ?_
  refine and_i (Nat.le_of_ble_eq_true rfl) ?_
  refine gs rfl ?_
  refine gs rfl ?_
  refine gs rfl ?_
  refine and_4 (by decide) (Nat.le_of_ble_eq_true rfl) (Nat.le_of_ble_eq_true rfl) (Nat.le_of_ble_eq_true rfl) ?_
  refine gs rfl ?_
  refine gs rfl ?_
  refine gs rfl ?_
  refine gs rfl ?_
  refine and_3 (Nat.le_of_ble_eq_true rfl) rfl (vin rfl) ?_
  refine gs rfl ?_
  refine gs rfl ?_
  refine gs rfl ?_
  refine gs rfl ?_
  refine and_3 (Nat.le_of_ble_eq_true rfl) rfl (vin rfl) ?_
  refine gs rfl ?_
  refine gs rfl ?_
  refine gs rfl ?_
  refine gs rfl ?_
  refine and_3 (Nat.le_of_ble_eq_true rfl) rfl (vin rfl) ?_
  refine gs rfl ?_
  refine gs rfl ?_
  refine gs rfl ?_
  refine gs rfl ?_
  refine and_3 (Nat.le_of_ble_eq_true rfl) rfl (vin rfl) ?_
  refine gs rfl ?_
  refine gs rfl ?_
  refine gs rfl ?_
  refine gs rfl ?_
  refine and_3 (Nat.le_of_ble_eq_true rfl) rfl (vin rfl) ?_
  refine gs rfl ?_
  refine gs rfl ?_
  refine gs rfl ?_
  refine gs rfl ?_
  refine and_3 (Nat.le_of_ble_eq_true rfl) rfl (vin rfl) ?_
  refine gs rfl ?_
  refine gs rfl ?_
  refine gs rfl ?_
  refine gs rfl ?_
  refine and_3 (Nat.le_of_ble_eq_true rfl) rfl (vin rfl) ?_
  refine gs rfl ?_
  refine gs rfl ?_
  refine gs rfl ?_
  refine gs rfl ?_
  refine and_3 (Nat.le_of_ble_eq_true rfl) rfl (vin rfl) ?_
  refine gs rfl ?_
  refine and_3 (Nat.le_of_ble_eq_true rfl) (Nat.le_of_ble_eq_true rfl) trivial ?_
  refine gwh (h' := hq_1) (by decide +kernel) ?_
  refine gs rfl ?_
  refine gs rfl ?_
  refine gs rfl ?_
  refine and_4 (by decide) (Nat.le_of_ble_eq_true rfl) (Nat.le_of_ble_eq_true rfl) (Nat.le_of_ble_eq_true rfl) ?_
  refine gs rfl ?_
  refine and_3 (Nat.le_of_ble_eq_true rfl) (Nat.le_of_ble_eq_true rfl) trivial ?_
  refine gs rfl ?_
  refine gs rfl ?_
  refine gs rfl ?_
  refine and_4 (by decide) (Nat.le_of_ble_eq_true rfl) (Nat.le_of_ble_eq_true rfl) (Nat.le_of_ble_eq_true rfl) ?_
  refine gs rfl ?_
  refine and_3 (Nat.le_of_ble_eq_true rfl) (Nat.le_of_ble_eq_true rfl) trivial ?_
  refine gs rfl ?_
  refine gs rfl ?_
  refine gs rfl ?_
  refine and_4 (by decide) (Nat.le_of_ble_eq_true rfl) (Nat.le_of_ble_eq_true rfl) (Nat.le_of_ble_eq_true rfl) ?_
  refine gs rfl ?_
  refine and_3 (Nat.le_of_ble_eq_true rfl) (Nat.le_of_ble_eq_true rfl) trivial ?_
  refine gs rfl ?_
  refine gs rfl ?_
  refine gs rfl ?_
  refine and_4 (by decide) (Nat.le_of_ble_eq_true rfl) (Nat.le_of_ble_eq_true rfl) (Nat.le_of_ble_eq_true rfl) ?_
  refine gs rfl ?_
  refine and_3 (Nat.le_of_ble_eq_true rfl) (Nat.le_of_ble_eq_true rfl) trivial ?_
  refine gs rfl ?_
  refine gs rfl ?_
  refine gs rfl ?_
  refine and_4 (by decide) (Nat.le_of_ble_eq_true rfl) (Nat.le_of_ble_eq_true rfl) (Nat.le_of_ble_eq_true rfl) ?_
  refine gs rfl ?_
  refine and_3 (Nat.le_of_ble_eq_true rfl) (Nat.le_of_ble_eq_true rfl) trivial ?_
  refine gwh (h' := hq_2) (by decide +kernel) ?_
  refine gs rfl ?_
  refine gs rfl ?_
  refine gs rfl ?_
  refine and_4 (by decide) (Nat.le_of_ble_eq_true rfl) (Nat.le_of_ble_eq_true rfl) (Nat.le_of_ble_eq_true rfl) ?_
  refine gs rfl ?_
  refine and_3 (Nat.le_of_ble_eq_true rfl) (Nat.le_of_ble_eq_true rfl) trivial ?_
  refine gs rfl ?_
  refine gs rfl ?_
  refine gs rfl ?_
  refine and_4 (by decide) (Nat.le_of_ble_eq_true rfl) (Nat.le_of_ble_eq_true rfl) (Nat.le_of_ble_eq_true rfl) ?_
  refine gs rfl ?_
  refine and_3 (Nat.le_of_ble_eq_true rfl) (Nat.le_of_ble_eq_true rfl) trivial ?_
  refine gs rfl ?_
  refine gs rfl ?_
  refine gs rfl ?_
  refine and_3 (Nat.le_of_ble_eq_true rfl) (Nat.le_of_ble_eq_true rfl) trivial ?_
  refine gs rfl ?_
  refine gs rfl ?_
  refine gs rfl ?_
  refine and_3 (Nat.le_of_ble_eq_true rfl) (Nat.le_of_ble_eq_true rfl) trivial ?_
  refine gs rfl ?_
  refine gs rfl ?_
  refine gs rfl ?_
  refine and_3 (Nat.le_of_ble_eq_true rfl) (Nat.le_of_ble_eq_true rfl) trivial ?_
  refine gs rfl ?_
  refine gs rfl ?_
  refine gs rfl ?_
  refine and_3 (Nat.le_of_ble_eq_true rfl) (Nat.le_of_ble_eq_true rfl) trivial ?_
  refine gs rfl ?_
  refine gs rfl ?_
  refine gs rfl ?_
  refine and_3 (Nat.le_of_ble_eq_true rfl) (Nat.le_of_ble_eq_true rfl) trivial ?_
  refine gs rfl ?_
  refine and_i rfl ?_
  exact qh (by decide +kernel) hQ
set_option maxRecDepth 20000 in
set_option maxHeartbeats 4000000 in
theorem c_sub_1 {xs : List Int32} {d : Nat} {Q : QT} (hQ : Q none hq_7) : WP xs (d + 1) 30 8 64 [.ref 42] hq_4 Q := by
  refine and_i (Nat.le_of_ble_eq_true rfl) ?_
  refine gs rfl ?_
  refine gs rfl ?_
  refine and_i (Nat.le_of_ble_eq_true rfl) ?_
  refine gs rfl ?_
  refine gs rfl ?_
  refine gs rfl ?_
  refine and_4 (by decide) (Nat.le_of_ble_eq_true rfl) (Nat.le_of_ble_eq_true rfl) (Nat.le_of_ble_eq_true rfl) ?_
  refine gs rfl ?_
  refine gs rfl ?_
  refine gs rfl ?_
  refine gs rfl ?_
  refine and_3 (Nat.le_of_ble_eq_true rfl) rfl (vin rfl) ?_
  refine gs rfl ?_
  refine gs rfl ?_
  refine gs rfl ?_
  refine gs rfl ?_
  refine and_3 (Nat.le_of_ble_eq_true rfl) rfl (vin rfl) ?_
  refine gs rfl ?_
  refine gs rfl ?_
  refine gs rfl ?_
  refine gs rfl ?_
  refine and_3 (Nat.le_of_ble_eq_true rfl) rfl (vin rfl) ?_
  refine gs rfl ?_
  refine gs rfl ?_
  refine gs rfl ?_
  refine gs rfl ?_
  refine and_3 (Nat.le_of_ble_eq_true rfl) rfl (vin rfl) ?_
  refine gs rfl ?_
  refine gs rfl ?_
  refine gs rfl ?_
  refine gs rfl ?_
  refine and_3 (Nat.le_of_ble_eq_true rfl) rfl (vin rfl) ?_
  refine gs rfl ?_
  refine gs rfl ?_
  refine gs rfl ?_
  refine gs rfl ?_
  refine and_3 (Nat.le_of_ble_eq_true rfl) rfl (vin rfl) ?_
  refine gs rfl ?_
  refine gs rfl ?_
  refine gs rfl ?_
  refine gs rfl ?_
  refine and_3 (Nat.le_of_ble_eq_true rfl) rfl (vin rfl) ?_
  refine gs rfl ?_
  refine gs rfl ?_
  refine gs rfl ?_
  refine gs rfl ?_
  refine and_3 (Nat.le_of_ble_eq_true rfl) rfl (vin rfl) ?_
  refine gs rfl ?_
  refine and_3 (Nat.le_of_ble_eq_true rfl) (Nat.le_of_ble_eq_true rfl) trivial ?_
  refine gwh (h' := hq_5) (by decide +kernel) ?_
  refine gs rfl ?_
  refine gs rfl ?_
  refine gs rfl ?_
  refine and_4 (by decide) (Nat.le_of_ble_eq_true rfl) (Nat.le_of_ble_eq_true rfl) (Nat.le_of_ble_eq_true rfl) ?_
  refine gs rfl ?_
  refine and_3 (Nat.le_of_ble_eq_true rfl) (Nat.le_of_ble_eq_true rfl) trivial ?_
  refine gs rfl ?_
  refine gs rfl ?_
  refine gs rfl ?_
  refine and_4 (by decide) (Nat.le_of_ble_eq_true rfl) (Nat.le_of_ble_eq_true rfl) (Nat.le_of_ble_eq_true rfl) ?_
  refine gs rfl ?_
  refine and_3 (Nat.le_of_ble_eq_true rfl) (Nat.le_of_ble_eq_true rfl) trivial ?_
  refine gs rfl ?_
  refine gs rfl ?_
  refine gs rfl ?_
  refine and_4 (by decide) (Nat.le_of_ble_eq_true rfl) (Nat.le_of_ble_eq_true rfl) (Nat.le_of_ble_eq_true rfl) ?_
  refine gs rfl ?_
  refine and_3 (Nat.le_of_ble_eq_true rfl) (Nat.le_of_ble_eq_true rfl) trivial ?_
  refine gs rfl ?_
  refine gs rfl ?_
  refine gs rfl ?_
  refine and_4 (by decide) (Nat.le_of_ble_eq_true rfl) (Nat.le_of_ble_eq_true rfl) (Nat.le_of_ble_eq_true rfl) ?_
  refine gs rfl ?_
  refine and_3 (Nat.le_of_ble_eq_true rfl) (Nat.le_of_ble_eq_true rfl) trivial ?_
  refine gs rfl ?_
  refine gs rfl ?_
  refine gs rfl ?_
  refine and_4 (by decide) (Nat.le_of_ble_eq_true rfl) (Nat.le_of_ble_eq_true rfl) (Nat.le_of_ble_eq_true rfl) ?_
  refine gs rfl ?_
  refine and_3 (Nat.le_of_ble_eq_true rfl) (Nat.le_of_ble_eq_true rfl) trivial ?_
  refine gwh (h' := hq_6) (by decide +kernel) ?_
  refine gs rfl ?_
  refine gs rfl ?_
  refine gs rfl ?_
  refine and_4 (by decide) (Nat.le_of_ble_eq_true rfl) (Nat.le_of_ble_eq_true rfl) (Nat.le_of_ble_eq_true rfl) ?_
  refine gs rfl ?_
  refine and_3 (Nat.le_of_ble_eq_true rfl) (Nat.le_of_ble_eq_true rfl) trivial ?_
  refine gs rfl ?_
  refine gs rfl ?_
  refine gs rfl ?_
  refine and_4 (by decide) (Nat.le_of_ble_eq_true rfl) (Nat.le_of_ble_eq_true rfl) (Nat.le_of_ble_eq_true rfl) ?_
  refine gs rfl ?_
  refine and_3 (Nat.le_of_ble_eq_true rfl) (Nat.le_of_ble_eq_true rfl) trivial ?_
  refine gs rfl ?_
  refine gs rfl ?_
  refine gs rfl ?_
  refine and_3 (Nat.le_of_ble_eq_true rfl) (Nat.le_of_ble_eq_true rfl) trivial ?_
  refine gs rfl ?_
  refine gs rfl ?_
  refine gs rfl ?_
  refine and_3 (Nat.le_of_ble_eq_true rfl) (Nat.le_of_ble_eq_true rfl) trivial ?_
  refine gs rfl ?_
  refine gs rfl ?_
  refine gs rfl ?_
  refine and_3 (Nat.le_of_ble_eq_true rfl) (Nat.le_of_ble_eq_true rfl) trivial ?_
  refine gs rfl ?_
  refine gs rfl ?_
  refine gs rfl ?_
  refine and_3 (Nat.le_of_ble_eq_true rfl) (Nat.le_of_ble_eq_true rfl) trivial ?_
  refine gs rfl ?_
  refine gs rfl ?_
  refine gs rfl ?_
  refine and_3 (Nat.le_of_ble_eq_true rfl) (Nat.le_of_ble_eq_true rfl) trivial ?_
  refine gs rfl ?_
  refine and_i rfl ?_
  exact qh (by decide +kernel) hQ
set_option maxRecDepth 20000 in
set_option maxHeartbeats 4000000 in
theorem c_sub_2 {xs : List Int32} {d : Nat} {Q : QT} (hQ : Q none hq_11) : WP xs (d + 1) 30 8 64 [.ref 51] hq_8 Q := by
  refine and_i (Nat.le_of_ble_eq_true rfl) ?_
  refine gs rfl ?_
  refine gs rfl ?_
  refine and_i (Nat.le_of_ble_eq_true rfl) ?_
  refine gs rfl ?_
  refine gs rfl ?_
  refine gs rfl ?_
  refine and_4 (by decide) (Nat.le_of_ble_eq_true rfl) (Nat.le_of_ble_eq_true rfl) (Nat.le_of_ble_eq_true rfl) ?_
  refine gs rfl ?_
  refine gs rfl ?_
  refine gs rfl ?_
  refine gs rfl ?_
  refine and_3 (Nat.le_of_ble_eq_true rfl) rfl (vin rfl) ?_
  refine gs rfl ?_
  refine gs rfl ?_
  refine gs rfl ?_
  refine gs rfl ?_
  refine and_3 (Nat.le_of_ble_eq_true rfl) rfl (vin rfl) ?_
  refine gs rfl ?_
  refine gs rfl ?_
  refine gs rfl ?_
  refine gs rfl ?_
  refine and_3 (Nat.le_of_ble_eq_true rfl) rfl (vin rfl) ?_
  refine gs rfl ?_
  refine gs rfl ?_
  refine gs rfl ?_
  refine gs rfl ?_
  refine and_3 (Nat.le_of_ble_eq_true rfl) rfl (vin rfl) ?_
  refine gs rfl ?_
  refine gs rfl ?_
  refine gs rfl ?_
  refine gs rfl ?_
  refine and_3 (Nat.le_of_ble_eq_true rfl) rfl (vin rfl) ?_
  refine gs rfl ?_
  refine gs rfl ?_
  refine gs rfl ?_
  refine gs rfl ?_
  refine and_3 (Nat.le_of_ble_eq_true rfl) rfl (vin rfl) ?_
  refine gs rfl ?_
  refine gs rfl ?_
  refine gs rfl ?_
  refine gs rfl ?_
  refine and_3 (Nat.le_of_ble_eq_true rfl) rfl (vin rfl) ?_
  refine gs rfl ?_
  refine gs rfl ?_
  refine gs rfl ?_
  refine gs rfl ?_
  refine and_3 (Nat.le_of_ble_eq_true rfl) rfl (vin rfl) ?_
  refine gs rfl ?_
  refine and_3 (Nat.le_of_ble_eq_true rfl) (Nat.le_of_ble_eq_true rfl) trivial ?_
  refine gwh (h' := hq_9) (by decide +kernel) ?_
  refine gs rfl ?_
  refine gs rfl ?_
  refine gs rfl ?_
  refine and_4 (by decide) (Nat.le_of_ble_eq_true rfl) (Nat.le_of_ble_eq_true rfl) (Nat.le_of_ble_eq_true rfl) ?_
  refine gs rfl ?_
  refine and_3 (Nat.le_of_ble_eq_true rfl) (Nat.le_of_ble_eq_true rfl) trivial ?_
  refine gs rfl ?_
  refine gs rfl ?_
  refine gs rfl ?_
  refine and_4 (by decide) (Nat.le_of_ble_eq_true rfl) (Nat.le_of_ble_eq_true rfl) (Nat.le_of_ble_eq_true rfl) ?_
  refine gs rfl ?_
  refine and_3 (Nat.le_of_ble_eq_true rfl) (Nat.le_of_ble_eq_true rfl) trivial ?_
  refine gs rfl ?_
  refine gs rfl ?_
  refine gs rfl ?_
  refine and_4 (by decide) (Nat.le_of_ble_eq_true rfl) (Nat.le_of_ble_eq_true rfl) (Nat.le_of_ble_eq_true rfl) ?_
  refine gs rfl ?_
  refine and_3 (Nat.le_of_ble_eq_true rfl) (Nat.le_of_ble_eq_true rfl) trivial ?_
  refine gs rfl ?_
  refine gs rfl ?_
  refine gs rfl ?_
  refine and_4 (by decide) (Nat.le_of_ble_eq_true rfl) (Nat.le_of_ble_eq_true rfl) (Nat.le_of_ble_eq_true rfl) ?_
  refine gs rfl ?_
  refine and_3 (Nat.le_of_ble_eq_true rfl) (Nat.le_of_ble_eq_true rfl) trivial ?_
  refine gs rfl ?_
  refine gs rfl ?_
  refine gs rfl ?_
  refine and_4 (by decide) (Nat.le_of_ble_eq_true rfl) (Nat.le_of_ble_eq_true rfl) (Nat.le_of_ble_eq_true rfl) ?_
  refine gs rfl ?_
  refine and_3 (Nat.le_of_ble_eq_true rfl) (Nat.le_of_ble_eq_true rfl) trivial ?_
  refine gwh (h' := hq_10) (by decide +kernel) ?_
  refine gs rfl ?_
  refine gs rfl ?_
  refine gs rfl ?_
  refine and_4 (by decide) (Nat.le_of_ble_eq_true rfl) (Nat.le_of_ble_eq_true rfl) (Nat.le_of_ble_eq_true rfl) ?_
  refine gs rfl ?_
  refine and_3 (Nat.le_of_ble_eq_true rfl) (Nat.le_of_ble_eq_true rfl) trivial ?_
  refine gs rfl ?_
  refine gs rfl ?_
  refine gs rfl ?_
  refine and_4 (by decide) (Nat.le_of_ble_eq_true rfl) (Nat.le_of_ble_eq_true rfl) (Nat.le_of_ble_eq_true rfl) ?_
  refine gs rfl ?_
  refine and_3 (Nat.le_of_ble_eq_true rfl) (Nat.le_of_ble_eq_true rfl) trivial ?_
  refine gs rfl ?_
  refine gs rfl ?_
  refine gs rfl ?_
  refine and_3 (Nat.le_of_ble_eq_true rfl) (Nat.le_of_ble_eq_true rfl) trivial ?_
  refine gs rfl ?_
  refine gs rfl ?_
  refine gs rfl ?_
  refine and_3 (Nat.le_of_ble_eq_true rfl) (Nat.le_of_ble_eq_true rfl) trivial ?_
  refine gs rfl ?_
  refine gs rfl ?_
  refine gs rfl ?_
  refine and_3 (Nat.le_of_ble_eq_true rfl) (Nat.le_of_ble_eq_true rfl) trivial ?_
  refine gs rfl ?_
  refine gs rfl ?_
  refine gs rfl ?_
  refine and_3 (Nat.le_of_ble_eq_true rfl) (Nat.le_of_ble_eq_true rfl) trivial ?_
  refine gs rfl ?_
  refine gs rfl ?_
  refine gs rfl ?_
  refine and_3 (Nat.le_of_ble_eq_true rfl) (Nat.le_of_ble_eq_true rfl) trivial ?_
  refine gs rfl ?_
  refine and_i rfl ?_
  exact qh (by decide +kernel) hQ
set_option maxRecDepth 20000 in
set_option maxHeartbeats 4000000 in
theorem c_sub_3 {xs : List Int32} {d : Nat} {Q : QT} (hQ : Q none hq_15) : WP xs (d + 1) 30 8 64 [.ref 60] hq_12 Q := by
  refine and_i (Nat.le_of_ble_eq_true rfl) ?_
  refine gs rfl ?_
  refine gs rfl ?_
  refine and_i (Nat.le_of_ble_eq_true rfl) ?_
  refine gs rfl ?_
  refine gs rfl ?_
  refine gs rfl ?_
  refine and_4 (by decide) (Nat.le_of_ble_eq_true rfl) (Nat.le_of_ble_eq_true rfl) (Nat.le_of_ble_eq_true rfl) ?_
  refine gs rfl ?_
  refine gs rfl ?_
  refine gs rfl ?_
  refine gs rfl ?_
  refine and_3 (Nat.le_of_ble_eq_true rfl) rfl (vin rfl) ?_
  refine gs rfl ?_
  refine gs rfl ?_
  refine gs rfl ?_
  refine gs rfl ?_
  refine and_3 (Nat.le_of_ble_eq_true rfl) rfl (vin rfl) ?_
  refine gs rfl ?_
  refine gs rfl ?_
  refine gs rfl ?_
  refine gs rfl ?_
  refine and_3 (Nat.le_of_ble_eq_true rfl) rfl (vin rfl) ?_
  refine gs rfl ?_
  refine gs rfl ?_
  refine gs rfl ?_
  refine gs rfl ?_
  refine and_3 (Nat.le_of_ble_eq_true rfl) rfl (vin rfl) ?_
  refine gs rfl ?_
  refine gs rfl ?_
  refine gs rfl ?_
  refine gs rfl ?_
  refine and_3 (Nat.le_of_ble_eq_true rfl) rfl (vin rfl) ?_
  refine gs rfl ?_
  refine gs rfl ?_
  refine gs rfl ?_
  refine gs rfl ?_
  refine and_3 (Nat.le_of_ble_eq_true rfl) rfl (vin rfl) ?_
  refine gs rfl ?_
  refine gs rfl ?_
  refine gs rfl ?_
  refine gs rfl ?_
  refine and_3 (Nat.le_of_ble_eq_true rfl) rfl (vin rfl) ?_
  refine gs rfl ?_
  refine gs rfl ?_
  refine gs rfl ?_
  refine gs rfl ?_
  refine and_3 (Nat.le_of_ble_eq_true rfl) rfl (vin rfl) ?_
  refine gs rfl ?_
  refine and_3 (Nat.le_of_ble_eq_true rfl) (Nat.le_of_ble_eq_true rfl) trivial ?_
  refine gwh (h' := hq_13) (by decide +kernel) ?_
  refine gs rfl ?_
  refine gs rfl ?_
  refine gs rfl ?_
  refine and_4 (by decide) (Nat.le_of_ble_eq_true rfl) (Nat.le_of_ble_eq_true rfl) (Nat.le_of_ble_eq_true rfl) ?_
  refine gs rfl ?_
  refine and_3 (Nat.le_of_ble_eq_true rfl) (Nat.le_of_ble_eq_true rfl) trivial ?_
  refine gs rfl ?_
  refine gs rfl ?_
  refine gs rfl ?_
  refine and_4 (by decide) (Nat.le_of_ble_eq_true rfl) (Nat.le_of_ble_eq_true rfl) (Nat.le_of_ble_eq_true rfl) ?_
  refine gs rfl ?_
  refine and_3 (Nat.le_of_ble_eq_true rfl) (Nat.le_of_ble_eq_true rfl) trivial ?_
  refine gs rfl ?_
  refine gs rfl ?_
  refine gs rfl ?_
  refine and_4 (by decide) (Nat.le_of_ble_eq_true rfl) (Nat.le_of_ble_eq_true rfl) (Nat.le_of_ble_eq_true rfl) ?_
  refine gs rfl ?_
  refine and_3 (Nat.le_of_ble_eq_true rfl) (Nat.le_of_ble_eq_true rfl) trivial ?_
  refine gs rfl ?_
  refine gs rfl ?_
  refine gs rfl ?_
  refine and_4 (by decide) (Nat.le_of_ble_eq_true rfl) (Nat.le_of_ble_eq_true rfl) (Nat.le_of_ble_eq_true rfl) ?_
  refine gs rfl ?_
  refine and_3 (Nat.le_of_ble_eq_true rfl) (Nat.le_of_ble_eq_true rfl) trivial ?_
  refine gs rfl ?_
  refine gs rfl ?_
  refine gs rfl ?_
  refine and_4 (by decide) (Nat.le_of_ble_eq_true rfl) (Nat.le_of_ble_eq_true rfl) (Nat.le_of_ble_eq_true rfl) ?_
  refine gs rfl ?_
  refine and_3 (Nat.le_of_ble_eq_true rfl) (Nat.le_of_ble_eq_true rfl) trivial ?_
  refine gwh (h' := hq_14) (by decide +kernel) ?_
  refine gs rfl ?_
  refine gs rfl ?_
  refine gs rfl ?_
  refine and_4 (by decide) (Nat.le_of_ble_eq_true rfl) (Nat.le_of_ble_eq_true rfl) (Nat.le_of_ble_eq_true rfl) ?_
  refine gs rfl ?_
  refine and_3 (Nat.le_of_ble_eq_true rfl) (Nat.le_of_ble_eq_true rfl) trivial ?_
  refine gs rfl ?_
  refine gs rfl ?_
  refine gs rfl ?_
  refine and_4 (by decide) (Nat.le_of_ble_eq_true rfl) (Nat.le_of_ble_eq_true rfl) (Nat.le_of_ble_eq_true rfl) ?_
  refine gs rfl ?_
  refine and_3 (Nat.le_of_ble_eq_true rfl) (Nat.le_of_ble_eq_true rfl) trivial ?_
  refine gs rfl ?_
  refine gs rfl ?_
  refine gs rfl ?_
  refine and_3 (Nat.le_of_ble_eq_true rfl) (Nat.le_of_ble_eq_true rfl) trivial ?_
  refine gs rfl ?_
  refine gs rfl ?_
  refine gs rfl ?_
  refine and_3 (Nat.le_of_ble_eq_true rfl) (Nat.le_of_ble_eq_true rfl) trivial ?_
  refine gs rfl ?_
  refine gs rfl ?_
  refine gs rfl ?_
  refine and_3 (Nat.le_of_ble_eq_true rfl) (Nat.le_of_ble_eq_true rfl) trivial ?_
  refine gs rfl ?_
  refine gs rfl ?_
  refine gs rfl ?_
  refine and_3 (Nat.le_of_ble_eq_true rfl) (Nat.le_of_ble_eq_true rfl) trivial ?_
  refine gs rfl ?_
  refine gs rfl ?_
  refine gs rfl ?_
  refine and_3 (Nat.le_of_ble_eq_true rfl) (Nat.le_of_ble_eq_true rfl) trivial ?_
  refine gs rfl ?_
  refine and_i rfl ?_
  exact qh (by decide +kernel) hQ
set_option maxRecDepth 20000 in
set_option maxHeartbeats 4000000 in
theorem c_sub_4 {xs : List Int32} {d : Nat} {Q : QT} (hQ : Q none hq_17) : WP xs (d + 1) 10 2 70 [.ref 69] hq_16 Q := by
  refine and_i (Nat.le_of_ble_eq_true rfl) ?_
  refine gs rfl ?_
  refine gs rfl ?_
  refine and_i (Nat.le_of_ble_eq_true rfl) ?_
  refine gs rfl ?_
  refine gs rfl ?_
  refine gs rfl ?_
  refine and_3 (Nat.le_of_ble_eq_true rfl) (Nat.le_of_ble_eq_true rfl) trivial ?_
  refine gs rfl ?_
  refine gs rfl ?_
  refine gs rfl ?_
  refine and_4 (by decide) (Nat.le_of_ble_eq_true rfl) (Nat.le_of_ble_eq_true rfl) (Nat.le_of_ble_eq_true rfl) ?_
  refine gs rfl ?_
  refine and_3 (Nat.le_of_ble_eq_true rfl) (Nat.le_of_ble_eq_true rfl) trivial ?_
  refine gs rfl ?_
  refine gs rfl ?_
  refine gs rfl ?_
  refine and_3 (Nat.le_of_ble_eq_true rfl) (Nat.le_of_ble_eq_true rfl) trivial ?_
  refine gs rfl ?_
  refine gs rfl ?_
  refine gs rfl ?_
  refine and_4 (by decide) (Nat.le_of_ble_eq_true rfl) (Nat.le_of_ble_eq_true rfl) (Nat.le_of_ble_eq_true rfl) ?_
  refine gs rfl ?_
  refine and_3 (Nat.le_of_ble_eq_true rfl) (Nat.le_of_ble_eq_true rfl) trivial ?_
  refine gs rfl ?_
  refine gs rfl ?_
  refine gs rfl ?_
  refine and_3 (Nat.le_of_ble_eq_true rfl) (Nat.le_of_ble_eq_true rfl) trivial ?_
  refine gs rfl ?_
  refine and_i rfl ?_
  exact qh (by decide +kernel) hQ
set_option maxRecDepth 20000 in
set_option maxHeartbeats 4000000 in
theorem c_sub_5 {xs : List Int32} {d : Nat} {Q : QT} (hQ : Q none hq_19) : WP xs (d + 1) 10 2 70 [.ref 72] hq_18 Q := by
  refine and_i (Nat.le_of_ble_eq_true rfl) ?_
  refine gs rfl ?_
  refine gs rfl ?_
  refine and_i (Nat.le_of_ble_eq_true rfl) ?_
  refine gs rfl ?_
  refine gs rfl ?_
  refine gs rfl ?_
  refine and_3 (Nat.le_of_ble_eq_true rfl) (Nat.le_of_ble_eq_true rfl) trivial ?_
  refine gs rfl ?_
  refine gs rfl ?_
  refine gs rfl ?_
  refine and_4 (by decide) (Nat.le_of_ble_eq_true rfl) (Nat.le_of_ble_eq_true rfl) (Nat.le_of_ble_eq_true rfl) ?_
  refine gs rfl ?_
  refine and_3 (Nat.le_of_ble_eq_true rfl) (Nat.le_of_ble_eq_true rfl) trivial ?_
  refine gs rfl ?_
  refine gs rfl ?_
  refine gs rfl ?_
  refine and_3 (Nat.le_of_ble_eq_true rfl) (Nat.le_of_ble_eq_true rfl) trivial ?_
  refine gs rfl ?_
  refine gs rfl ?_
  refine gs rfl ?_
  refine and_4 (by decide) (Nat.le_of_ble_eq_true rfl) (Nat.le_of_ble_eq_true rfl) (Nat.le_of_ble_eq_true rfl) ?_
  refine gs rfl ?_
  refine and_3 (Nat.le_of_ble_eq_true rfl) (Nat.le_of_ble_eq_true rfl) trivial ?_
  refine gs rfl ?_
  refine gs rfl ?_
  refine gs rfl ?_
  refine and_3 (Nat.le_of_ble_eq_true rfl) (Nat.le_of_ble_eq_true rfl) trivial ?_
  refine gs rfl ?_
  refine and_i rfl ?_
  exact qh (by decide +kernel) hQ
set_option maxRecDepth 20000 in
set_option maxHeartbeats 4000000 in
theorem c_sub_6 {xs : List Int32} {d : Nat} {Q : QT} (hQ : Q none hq_21) : WP xs (d + 1) 15 1 50 [.ref 75, .ref 70] hq_20 Q := by
  refine and_i (Nat.le_of_ble_eq_true rfl) ?_
  refine gs rfl ?_
  refine gs rfl ?_
  refine and_i (Nat.le_of_ble_eq_true rfl) ?_
  refine gs rfl ?_
  refine gs rfl ?_
  refine gs rfl ?_
  refine and_4 (by decide) (Nat.le_of_ble_eq_true rfl) (Nat.le_of_ble_eq_true rfl) (Nat.le_of_ble_eq_true rfl) ?_
  refine gs rfl ?_
  refine and_3 (Nat.le_of_ble_eq_true rfl) (Nat.le_of_ble_eq_true rfl) trivial ?_
  refine gs rfl ?_
  refine gs rfl ?_
  refine gs rfl ?_
  refine and_3 (Nat.le_of_ble_eq_true rfl) (Nat.le_of_ble_eq_true rfl) trivial ?_
  refine gs rfl ?_
  refine gs rfl ?_
  refine gs rfl ?_
  refine and_3 (Nat.le_of_ble_eq_true rfl) (Nat.le_of_ble_eq_true rfl) trivial ?_
  refine gs rfl ?_
  refine gs rfl ?_
  refine gs rfl ?_
  refine and_3 (Nat.le_of_ble_eq_true rfl) (Nat.le_of_ble_eq_true rfl) trivial ?_
  refine gs rfl ?_
  refine gs rfl ?_
  refine gs rfl ?_
  refine and_3 (Nat.le_of_ble_eq_true rfl) (Nat.le_of_ble_eq_true rfl) trivial ?_
  refine gs rfl ?_
  refine gs rfl ?_
  refine gs rfl ?_
  refine and_3 (Nat.le_of_ble_eq_true rfl) (Nat.le_of_ble_eq_true rfl) trivial ?_
  refine gs rfl ?_
  refine gs rfl ?_
  refine gs rfl ?_
  refine and_3 (Nat.le_of_ble_eq_true rfl) (Nat.le_of_ble_eq_true rfl) trivial ?_
  refine gs rfl ?_
  refine and_i rfl ?_
  exact qh (by decide +kernel) hQ
set_option maxRecDepth 20000 in
set_option maxHeartbeats 4000000 in
theorem c_sub_7 {xs : List Int32} {d : Nat} {Q : QT} (hQ : Q none hq_23) : WP xs (d + 1) 49 1 40 [.ref 77] hq_22 Q := by
  refine and_i (Nat.le_of_ble_eq_true rfl) ?_
  refine gs rfl ?_
  refine gs rfl ?_
  refine and_i (Nat.le_of_ble_eq_true rfl) ?_
  refine gs rfl ?_
  refine gs rfl ?_
  refine gs rfl ?_
  refine and_3 (Nat.le_of_ble_eq_true rfl) (Nat.le_of_ble_eq_true rfl) trivial ?_
  refine gs rfl ?_
  refine gs rfl ?_
  refine gs rfl ?_
  refine and_3 (Nat.le_of_ble_eq_true rfl) (Nat.le_of_ble_eq_true rfl) trivial ?_
  refine gs rfl ?_
  refine gs rfl ?_
  refine gs rfl ?_
  refine and_3 (Nat.le_of_ble_eq_true rfl) (Nat.le_of_ble_eq_true rfl) trivial ?_
  refine gs rfl ?_
  refine gs rfl ?_
  refine gs rfl ?_
  refine and_4 (by decide) (Nat.le_of_ble_eq_true rfl) (Nat.le_of_ble_eq_true rfl) (Nat.le_of_ble_eq_true rfl) ?_
  refine gs rfl ?_
  refine and_3 (Nat.le_of_ble_eq_true rfl) (Nat.le_of_ble_eq_true rfl) trivial ?_
  refine gs rfl ?_
  refine gs rfl ?_
  refine gs rfl ?_
  refine and_3 (Nat.le_of_ble_eq_true rfl) (Nat.le_of_ble_eq_true rfl) trivial ?_
  refine gs rfl ?_
  refine and_i rfl ?_
  exact qh (by decide +kernel) hQ
set_option maxRecDepth 20000 in
set_option maxHeartbeats 4000000 in
theorem c_sub_8 {xs : List Int32} {d : Nat} {Q : QT} (hQ : Q none hq_25) : WP xs (d + 1) 26 1 40 [.ref 80] hq_24 Q := by
  refine and_i (Nat.le_of_ble_eq_true rfl) ?_
  refine gs rfl ?_
  refine gs rfl ?_
  refine and_i (Nat.le_of_ble_eq_true rfl) ?_
  refine gs rfl ?_
  refine gs rfl ?_
  refine gs rfl ?_
  refine and_3 (Nat.le_of_ble_eq_true rfl) (Nat.le_of_ble_eq_true rfl) trivial ?_
  refine gs rfl ?_
  refine gs rfl ?_
  refine gs rfl ?_
  refine and_3 (Nat.le_of_ble_eq_true rfl) (Nat.le_of_ble_eq_true rfl) trivial ?_
  refine gs rfl ?_
  refine gs rfl ?_
  refine gs rfl ?_
  refine and_4 (by decide) (Nat.le_of_ble_eq_true rfl) (Nat.le_of_ble_eq_true rfl) (Nat.le_of_ble_eq_true rfl) ?_
  refine gs rfl ?_
  refine and_3 (Nat.le_of_ble_eq_true rfl) (Nat.le_of_ble_eq_true rfl) trivial ?_
  refine gs rfl ?_
  refine and_i rfl ?_
  exact qh (by decide +kernel) hQ
set_option maxRecDepth 20000 in
set_option maxHeartbeats 4000000 in
theorem c_sub_9 {xs : List Int32} {d : Nat} {Q : QT} (hQ : Q none hq_27) : WP xs (d + 1) 26 1 40 [.ref 82] hq_26 Q := by
  refine and_i (Nat.le_of_ble_eq_true rfl) ?_
  refine gs rfl ?_
  refine gs rfl ?_
  refine and_i (Nat.le_of_ble_eq_true rfl) ?_
  refine gs rfl ?_
  refine gs rfl ?_
  refine gs rfl ?_
  refine and_3 (Nat.le_of_ble_eq_true rfl) (Nat.le_of_ble_eq_true rfl) trivial ?_
  refine gs rfl ?_
  refine gs rfl ?_
  refine gs rfl ?_
  refine and_3 (Nat.le_of_ble_eq_true rfl) (Nat.le_of_ble_eq_true rfl) trivial ?_
  refine gs rfl ?_
  refine gs rfl ?_
  refine gs rfl ?_
  refine and_4 (by decide) (Nat.le_of_ble_eq_true rfl) (Nat.le_of_ble_eq_true rfl) (Nat.le_of_ble_eq_true rfl) ?_
  refine gs rfl ?_
  refine and_3 (Nat.le_of_ble_eq_true rfl) (Nat.le_of_ble_eq_true rfl) trivial ?_
  refine gs rfl ?_
  refine and_i rfl ?_
  exact qh (by decide +kernel) hQ
set_option maxRecDepth 20000 in
set_option maxHeartbeats 4000000 in
theorem c_sub_10 {xs : List Int32} {d : Nat} {Q : QT} (hQ : Q none hq_29) : WP xs (d + 1) 26 1 40 [.ref 84] hq_28 Q := by
  refine and_i (Nat.le_of_ble_eq_true rfl) ?_
  refine gs rfl ?_
  refine gs rfl ?_
  refine and_i (Nat.le_of_ble_eq_true rfl) ?_
  refine gs rfl ?_
  refine gs rfl ?_
  refine gs rfl ?_
  refine and_3 (Nat.le_of_ble_eq_true rfl) (Nat.le_of_ble_eq_true rfl) trivial ?_
  refine gs rfl ?_
  refine gs rfl ?_
  refine gs rfl ?_
  refine and_3 (Nat.le_of_ble_eq_true rfl) (Nat.le_of_ble_eq_true rfl) trivial ?_
  refine gs rfl ?_
  refine gs rfl ?_
  refine gs rfl ?_
  refine and_4 (by decide) (Nat.le_of_ble_eq_true rfl) (Nat.le_of_ble_eq_true rfl) (Nat.le_of_ble_eq_true rfl) ?_
  refine gs rfl ?_
  refine and_3 (Nat.le_of_ble_eq_true rfl) (Nat.le_of_ble_eq_true rfl) trivial ?_
  refine gs rfl ?_
  refine and_i rfl ?_
  exact qh (by decide +kernel) hQ
set_option maxRecDepth 20000 in
set_option maxHeartbeats 4000000 in
theorem c_sub_11 {xs : List Int32} {d : Nat} {Q : QT} (hQ : Q none hq_31) : WP xs (d + 1) 26 1 40 [.ref 86] hq_30 Q := by
  refine and_i (Nat.le_of_ble_eq_true rfl) ?_
  refine gs rfl ?_
  refine gs rfl ?_
  refine and_i (Nat.le_of_ble_eq_true rfl) ?_
  refine gs rfl ?_
  refine gs rfl ?_
  refine gs rfl ?_
  refine and_3 (Nat.le_of_ble_eq_true rfl) (Nat.le_of_ble_eq_true rfl) trivial ?_
  refine gs rfl ?_
  refine gs rfl ?_
  refine gs rfl ?_
  refine and_3 (Nat.le_of_ble_eq_true rfl) (Nat.le_of_ble_eq_true rfl) trivial ?_
  refine gs rfl ?_
  refine gs rfl ?_
  refine gs rfl ?_
  refine and_4 (by decide) (Nat.le_of_ble_eq_true rfl) (Nat.le_of_ble_eq_true rfl) (Nat.le_of_ble_eq_true rfl) ?_
  refine gs rfl ?_
  refine and_3 (Nat.le_of_ble_eq_true rfl) (Nat.le_of_ble_eq_true rfl) trivial ?_
  refine gs rfl ?_
  refine and_i rfl ?_
  exact qh (by decide +kernel) hQ
set_option maxRecDepth 20000 in
set_option maxHeartbeats 4000000 in
theorem c_initX {xs : List Int32} {d : Nat} {Q : QT} (hQ : Q none hX0) : WP xs (d + 2) 53 56 742 [.ref 32] ([] ++ [.inr (6, dfV 6 11)]) Q := by
  refine and_i (Nat.le_of_ble_eq_true rfl) ?_
  refine gs rfl ?_
  refine gs rfl ?_
  refine and_i (Nat.le_of_ble_eq_true rfl) ?_
  refine gs rfl ?_
  refine gs rfl ?_
  refine and_2 (Nat.le_of_ble_eq_true rfl) (Nat.le_of_ble_eq_true rfl) ?_
  refine gs rfl ?_
  refine gs rfl ?_
  refine and_2 (Nat.le_of_ble_eq_true rfl) (Nat.le_of_ble_eq_true rfl) (cl 8 64 (Nat.le_of_ble_eq_true rfl) (Nat.le_of_ble_eq_true rfl) (Nat.le_of_ble_eq_true rfl) (WPh (h' := hq_0) (by decide +kernel) (c_sub_0 ?_)))
  refine gs rfl ?_
  refine and_3 (Nat.le_of_ble_eq_true rfl) (Nat.le_of_ble_eq_true rfl) trivial ?_
  refine gs rfl ?_
  refine gs rfl ?_
  refine and_2 (Nat.le_of_ble_eq_true rfl) (Nat.le_of_ble_eq_true rfl) ?_
  refine gs rfl ?_
  refine gs rfl ?_
  refine and_2 (Nat.le_of_ble_eq_true rfl) (Nat.le_of_ble_eq_true rfl) (cl 8 64 (Nat.le_of_ble_eq_true rfl) (Nat.le_of_ble_eq_true rfl) (Nat.le_of_ble_eq_true rfl) (WPh (h' := hq_4) (by decide +kernel) (c_sub_1 ?_)))
  refine gs rfl ?_
  refine and_3 (Nat.le_of_ble_eq_true rfl) (Nat.le_of_ble_eq_true rfl) trivial ?_
  refine gs rfl ?_
  refine gs rfl ?_
  refine and_2 (Nat.le_of_ble_eq_true rfl) (Nat.le_of_ble_eq_true rfl) ?_
  refine gs rfl ?_
  refine gs rfl ?_
  refine and_2 (Nat.le_of_ble_eq_true rfl) (Nat.le_of_ble_eq_true rfl) (cl 8 64 (Nat.le_of_ble_eq_true rfl) (Nat.le_of_ble_eq_true rfl) (Nat.le_of_ble_eq_true rfl) (WPh (h' := hq_8) (by decide +kernel) (c_sub_2 ?_)))
  refine gs rfl ?_
  refine and_3 (Nat.le_of_ble_eq_true rfl) (Nat.le_of_ble_eq_true rfl) trivial ?_
  refine gs rfl ?_
  refine gs rfl ?_
  refine and_2 (Nat.le_of_ble_eq_true rfl) (Nat.le_of_ble_eq_true rfl) ?_
  refine gs rfl ?_
  refine gs rfl ?_
  refine and_2 (Nat.le_of_ble_eq_true rfl) (Nat.le_of_ble_eq_true rfl) (cl 8 64 (Nat.le_of_ble_eq_true rfl) (Nat.le_of_ble_eq_true rfl) (Nat.le_of_ble_eq_true rfl) (WPh (h' := hq_12) (by decide +kernel) (c_sub_3 ?_)))
  refine gs rfl ?_
  refine and_3 (Nat.le_of_ble_eq_true rfl) (Nat.le_of_ble_eq_true rfl) trivial ?_
  refine gs rfl ?_
  refine gs rfl ?_
  refine and_2 (Nat.le_of_ble_eq_true rfl) (Nat.le_of_ble_eq_true rfl) ?_
  refine gs rfl ?_
  refine gs rfl ?_
  refine and_2 (Nat.le_of_ble_eq_true rfl) (Nat.le_of_ble_eq_true rfl) (cl 2 70 (Nat.le_of_ble_eq_true rfl) (Nat.le_of_ble_eq_true rfl) (Nat.le_of_ble_eq_true rfl) (WPh (h' := hq_16) (by decide +kernel) (c_sub_4 ?_)))
  refine gs rfl ?_
  refine and_3 (Nat.le_of_ble_eq_true rfl) (Nat.le_of_ble_eq_true rfl) trivial ?_
  refine gs rfl ?_
  refine gs rfl ?_
  refine and_2 (Nat.le_of_ble_eq_true rfl) (Nat.le_of_ble_eq_true rfl) ?_
  refine gs rfl ?_
  refine gs rfl ?_
  refine and_2 (Nat.le_of_ble_eq_true rfl) (Nat.le_of_ble_eq_true rfl) (cl 2 70 (Nat.le_of_ble_eq_true rfl) (Nat.le_of_ble_eq_true rfl) (Nat.le_of_ble_eq_true rfl) (WPh (h' := hq_18) (by decide +kernel) (c_sub_5 ?_)))
  refine gs rfl ?_
  refine and_3 (Nat.le_of_ble_eq_true rfl) (Nat.le_of_ble_eq_true rfl) trivial ?_
  refine gs rfl ?_
  refine gs rfl ?_
  refine gs rfl ?_
  refine and_3 (Nat.le_of_ble_eq_true rfl) (Nat.le_of_ble_eq_true rfl) trivial ?_
  refine gs rfl ?_
  refine gs rfl ?_
  refine and_2 (Nat.le_of_ble_eq_true rfl) (Nat.le_of_ble_eq_true rfl) ?_
  refine gs rfl ?_
  refine gs rfl ?_
  refine gs rfl ?_
  refine gs rfl ?_
  refine gs rfl ?_
  refine and_2 (Nat.le_of_ble_eq_true rfl) (Nat.le_of_ble_eq_true rfl) (cl 1 50 (Nat.le_of_ble_eq_true rfl) (Nat.le_of_ble_eq_true rfl) (Nat.le_of_ble_eq_true rfl) (WPh (h' := hq_20) (by decide +kernel) (c_sub_6 ?_)))
  refine gs rfl ?_
  refine and_3 (Nat.le_of_ble_eq_true rfl) (Nat.le_of_ble_eq_true rfl) trivial ?_
  refine gs rfl ?_
  refine gs rfl ?_
  refine and_2 (Nat.le_of_ble_eq_true rfl) (Nat.le_of_ble_eq_true rfl) ?_
  refine gs rfl ?_
  refine gs rfl ?_
  refine and_2 (Nat.le_of_ble_eq_true rfl) (Nat.le_of_ble_eq_true rfl) (cl 1 40 (Nat.le_of_ble_eq_true rfl) (Nat.le_of_ble_eq_true rfl) (Nat.le_of_ble_eq_true rfl) (WPh (h' := hq_22) (by decide +kernel) (c_sub_7 ?_)))
  refine gs rfl ?_
  refine and_3 (Nat.le_of_ble_eq_true rfl) (Nat.le_of_ble_eq_true rfl) trivial ?_
  refine gs rfl ?_
  refine gs rfl ?_
  refine gs rfl ?_
  refine and_4 (by decide) (Nat.le_of_ble_eq_true rfl) (Nat.le_of_ble_eq_true rfl) (Nat.le_of_ble_eq_true rfl) ?_
  refine gs rfl ?_
  refine gs rfl ?_
  refine gs rfl ?_
  refine and_2 (Nat.le_of_ble_eq_true rfl) (Nat.le_of_ble_eq_true rfl) ?_
  refine gs rfl ?_
  refine gs rfl ?_
  refine and_2 (Nat.le_of_ble_eq_true rfl) (Nat.le_of_ble_eq_true rfl) (cl 1 40 (Nat.le_of_ble_eq_true rfl) (Nat.le_of_ble_eq_true rfl) (Nat.le_of_ble_eq_true rfl) (WPh (h' := hq_24) (by decide +kernel) (c_sub_8 ?_)))
  refine gs rfl ?_
  refine and_3 (Nat.le_of_ble_eq_true rfl) (Nat.le_of_ble_eq_true rfl) (vin rfl) ?_
  refine gs rfl ?_
  refine gs rfl ?_
  refine gs rfl ?_
  refine and_2 (Nat.le_of_ble_eq_true rfl) (Nat.le_of_ble_eq_true rfl) ?_
  refine gs rfl ?_
  refine gs rfl ?_
  refine and_2 (Nat.le_of_ble_eq_true rfl) (Nat.le_of_ble_eq_true rfl) (cl 1 40 (Nat.le_of_ble_eq_true rfl) (Nat.le_of_ble_eq_true rfl) (Nat.le_of_ble_eq_true rfl) (WPh (h' := hq_26) (by decide +kernel) (c_sub_9 ?_)))
  refine gs rfl ?_
  refine and_3 (Nat.le_of_ble_eq_true rfl) (Nat.le_of_ble_eq_true rfl) (vin rfl) ?_
  refine gs rfl ?_
  refine gs rfl ?_
  refine gs rfl ?_
  refine and_2 (Nat.le_of_ble_eq_true rfl) (Nat.le_of_ble_eq_true rfl) ?_
  refine gs rfl ?_
  refine gs rfl ?_
  refine and_2 (Nat.le_of_ble_eq_true rfl) (Nat.le_of_ble_eq_true rfl) (cl 1 40 (Nat.le_of_ble_eq_true rfl) (Nat.le_of_ble_eq_true rfl) (Nat.le_of_ble_eq_true rfl) (WPh (h' := hq_28) (by decide +kernel) (c_sub_10 ?_)))
  refine gs rfl ?_
  refine and_3 (Nat.le_of_ble_eq_true rfl) (Nat.le_of_ble_eq_true rfl) (vin rfl) ?_
  refine gs rfl ?_
  refine gs rfl ?_
  refine gs rfl ?_
  refine and_2 (Nat.le_of_ble_eq_true rfl) (Nat.le_of_ble_eq_true rfl) ?_
  refine gs rfl ?_
  refine gs rfl ?_
  refine and_2 (Nat.le_of_ble_eq_true rfl) (Nat.le_of_ble_eq_true rfl) (cl 1 40 (Nat.le_of_ble_eq_true rfl) (Nat.le_of_ble_eq_true rfl) (Nat.le_of_ble_eq_true rfl) (WPh (h' := hq_30) (by decide +kernel) (c_sub_11 ?_)))
  refine gs rfl ?_
  refine and_3 (Nat.le_of_ble_eq_true rfl) (Nat.le_of_ble_eq_true rfl) (vin rfl) ?_
  refine gs rfl ?_
  refine and_3 (Nat.le_of_ble_eq_true rfl) (Nat.le_of_ble_eq_true rfl) trivial ?_
  refine gs rfl ?_
  refine gs rfl ?_
  refine gs rfl ?_
  refine and_4 (by decide) (Nat.le_of_ble_eq_true rfl) (Nat.le_of_ble_eq_true rfl) (Nat.le_of_ble_eq_true rfl) ?_
  refine gs rfl ?_
  refine and_3 (Nat.le_of_ble_eq_true rfl) (Nat.le_of_ble_eq_true rfl) trivial ?_
  refine gs rfl ?_
  refine and_i rfl ?_
  exact qh (by decide +kernel) hQ
set_option maxRecDepth 20000 in
set_option maxHeartbeats 4000000 in
theorem c_initM {xs : List Int32} {d : Nat} {Q : QT} (hQ : Q none (hX0 ++ hM0)) : WP xs (d + 2) 106 11 1198 [.ref 89] (hX0 ++ [.inr (7, dfV 7 25)]) Q := by
  refine and_i (Nat.le_of_ble_eq_true rfl) ?_
  refine gs rfl ?_
  refine gs rfl ?_
  refine and_i (Nat.le_of_ble_eq_true rfl) ?_
  refine gs rfl ?_
  refine gs rfl ?_
  refine gs rfl ?_
  refine and_4 (by decide) (Nat.le_of_ble_eq_true rfl) (Nat.le_of_ble_eq_true rfl) (Nat.le_of_ble_eq_true rfl) ?_
  refine gs rfl ?_
  refine and_3 (Nat.le_of_ble_eq_true rfl) (Nat.le_of_ble_eq_true rfl) trivial ?_
  refine gs rfl ?_
  refine gs rfl ?_
  refine gs rfl ?_
  refine and_4 (by decide) (Nat.le_of_ble_eq_true rfl) (Nat.le_of_ble_eq_true rfl) (Nat.le_of_ble_eq_true rfl) ?_
  refine gs rfl ?_
  refine and_3 (Nat.le_of_ble_eq_true rfl) (Nat.le_of_ble_eq_true rfl) trivial ?_
  refine gs rfl ?_
  refine gs rfl ?_
  refine gs rfl ?_
  refine and_4 (by decide) (Nat.le_of_ble_eq_true rfl) (Nat.le_of_ble_eq_true rfl) (Nat.le_of_ble_eq_true rfl) ?_
  refine gs rfl ?_
  refine and_3 (Nat.le_of_ble_eq_true rfl) (Nat.le_of_ble_eq_true rfl) trivial ?_
  refine gs rfl ?_
  refine gs rfl ?_
  refine gs rfl ?_
  refine and_4 (by decide) (Nat.le_of_ble_eq_true rfl) (Nat.le_of_ble_eq_true rfl) (Nat.le_of_ble_eq_true rfl) ?_
  refine gs rfl ?_
  refine and_3 (Nat.le_of_ble_eq_true rfl) (Nat.le_of_ble_eq_true rfl) trivial ?_
  refine gs rfl ?_
  refine gs rfl ?_
  refine gs rfl ?_
  refine and_4 (by decide) (Nat.le_of_ble_eq_true rfl) (Nat.le_of_ble_eq_true rfl) (Nat.le_of_ble_eq_true rfl) ?_
  refine gs rfl ?_
  refine and_3 (Nat.le_of_ble_eq_true rfl) (Nat.le_of_ble_eq_true rfl) trivial ?_
  refine gwh (h' := hq_32) (by decide +kernel) ?_
  refine gs rfl ?_
  refine gs rfl ?_
  refine gs rfl ?_
  refine and_4 (by decide) (Nat.le_of_ble_eq_true rfl) (Nat.le_of_ble_eq_true rfl) (Nat.le_of_ble_eq_true rfl) ?_
  refine gs rfl ?_
  refine and_3 (Nat.le_of_ble_eq_true rfl) (Nat.le_of_ble_eq_true rfl) trivial ?_
  refine gs rfl ?_
  refine gs rfl ?_
  refine gs rfl ?_
  refine and_4 (by decide) (Nat.le_of_ble_eq_true rfl) (Nat.le_of_ble_eq_true rfl) (Nat.le_of_ble_eq_true rfl) ?_
  refine gs rfl ?_
  refine and_3 (Nat.le_of_ble_eq_true rfl) (Nat.le_of_ble_eq_true rfl) trivial ?_
  refine gs rfl ?_
  refine gs rfl ?_
  refine gs rfl ?_
  refine and_4 (by decide) (Nat.le_of_ble_eq_true rfl) (Nat.le_of_ble_eq_true rfl) (Nat.le_of_ble_eq_true rfl) ?_
  refine gs rfl ?_
  refine and_3 (Nat.le_of_ble_eq_true rfl) (Nat.le_of_ble_eq_true rfl) trivial ?_
  refine gs rfl ?_
  refine gs rfl ?_
  refine gs rfl ?_
  refine and_4 (by decide) (Nat.le_of_ble_eq_true rfl) (Nat.le_of_ble_eq_true rfl) (Nat.le_of_ble_eq_true rfl) ?_
  refine gs rfl ?_
  refine and_3 (Nat.le_of_ble_eq_true rfl) (Nat.le_of_ble_eq_true rfl) trivial ?_
  refine gs rfl ?_
  refine gs rfl ?_
  refine gs rfl ?_
  refine and_4 (by decide) (Nat.le_of_ble_eq_true rfl) (Nat.le_of_ble_eq_true rfl) (Nat.le_of_ble_eq_true rfl) ?_
  refine gs rfl ?_
  refine and_3 (Nat.le_of_ble_eq_true rfl) (Nat.le_of_ble_eq_true rfl) trivial ?_
  refine gwh (h' := hq_33) (by decide +kernel) ?_
  refine gs rfl ?_
  refine gs rfl ?_
  refine gs rfl ?_
  refine and_4 (by decide) (Nat.le_of_ble_eq_true rfl) (Nat.le_of_ble_eq_true rfl) (Nat.le_of_ble_eq_true rfl) ?_
  refine gs rfl ?_
  refine and_3 (Nat.le_of_ble_eq_true rfl) (Nat.le_of_ble_eq_true rfl) trivial ?_
  refine gs rfl ?_
  refine gs rfl ?_
  refine gs rfl ?_
  refine gs rfl ?_
  refine gs rfl ?_
  refine and_3 (Nat.le_of_ble_eq_true rfl) rfl (vin rfl) ?_
  refine gs rfl ?_
  refine gs rfl ?_
  refine gs rfl ?_
  refine gs rfl ?_
  refine gs rfl ?_
  refine and_3 (Nat.le_of_ble_eq_true rfl) rfl (vin rfl) ?_
  refine gs rfl ?_
  refine gs rfl ?_
  refine gs rfl ?_
  refine gs rfl ?_
  refine gs rfl ?_
  refine and_3 (Nat.le_of_ble_eq_true rfl) rfl (vin rfl) ?_
  refine gs rfl ?_
  refine gs rfl ?_
  refine gs rfl ?_
  refine gs rfl ?_
  refine gs rfl ?_
  refine and_3 (Nat.le_of_ble_eq_true rfl) rfl (vin rfl) ?_
  refine gs rfl ?_
  refine gs rfl ?_
  refine gs rfl ?_
  refine gs rfl ?_
  refine gs rfl ?_
  refine gs rfl ?_
  refine gs rfl ?_
  refine gs rfl ?_
  refine gs rfl ?_
  refine gs rfl ?_
  refine gs rfl ?_
  refine gs rfl ?_
  refine and_3 (Nat.le_of_ble_eq_true rfl) rfl (vin rfl) ?_
  refine gs rfl ?_
  refine gs rfl ?_
  refine gs rfl ?_
  refine gs rfl ?_
  refine gs rfl ?_
  refine gs rfl ?_
  refine gs rfl ?_
  refine gs rfl ?_
  refine gs rfl ?_
  refine gs rfl ?_
  refine gs rfl ?_
  refine gs rfl ?_
  refine and_3 (Nat.le_of_ble_eq_true rfl) rfl (vin rfl) ?_
  refine gs rfl ?_
  refine gs rfl ?_
  refine gs rfl ?_
  refine gs rfl ?_
  refine gs rfl ?_
  refine gs rfl ?_
  refine gs rfl ?_
  refine gs rfl ?_
  refine gs rfl ?_
  refine gs rfl ?_
  refine gs rfl ?_
  refine gs rfl ?_
  refine and_3 (Nat.le_of_ble_eq_true rfl) rfl (vin rfl) ?_
  refine gs rfl ?_
  refine gs rfl ?_
  refine gs rfl ?_
  refine gs rfl ?_
  refine gs rfl ?_
  refine gs rfl ?_
  refine gs rfl ?_
  refine gs rfl ?_
  refine gs rfl ?_
  refine gs rfl ?_
  refine gs rfl ?_
  refine gs rfl ?_
  refine and_3 (Nat.le_of_ble_eq_true rfl) rfl (vin rfl) ?_
  refine gwh (h' := hq_34) (by decide +kernel) ?_
  refine gs rfl ?_
  refine gs rfl ?_
  refine gs rfl ?_
  refine gs rfl ?_
  refine gs rfl ?_
  refine gs rfl ?_
  refine gs rfl ?_
  refine gs rfl ?_
  refine gs rfl ?_
  refine gs rfl ?_
  refine gs rfl ?_
  refine gs rfl ?_
  refine and_3 (Nat.le_of_ble_eq_true rfl) rfl (vin rfl) ?_
  refine gs rfl ?_
  refine gs rfl ?_
  refine gs rfl ?_
  refine gs rfl ?_
  refine gs rfl ?_
  refine gs rfl ?_
  refine gs rfl ?_
  refine gs rfl ?_
  refine gs rfl ?_
  refine gs rfl ?_
  refine gs rfl ?_
  refine gs rfl ?_
  refine and_3 (Nat.le_of_ble_eq_true rfl) rfl (vin rfl) ?_
  refine gs rfl ?_
  refine gs rfl ?_
  refine gs rfl ?_
  refine gs rfl ?_
  refine gs rfl ?_
  refine gs rfl ?_
  refine gs rfl ?_
  refine gs rfl ?_
  refine gs rfl ?_
  refine gs rfl ?_
  refine gs rfl ?_
  refine gs rfl ?_
  refine and_3 (Nat.le_of_ble_eq_true rfl) rfl (vin rfl) ?_
  refine gs rfl ?_
  refine gs rfl ?_
  refine gs rfl ?_
  refine gs rfl ?_
  refine gs rfl ?_
  refine gs rfl ?_
  refine gs rfl ?_
  refine gs rfl ?_
  refine gs rfl ?_
  refine gs rfl ?_
  refine gs rfl ?_
  refine gs rfl ?_
  refine and_3 (Nat.le_of_ble_eq_true rfl) rfl (vin rfl) ?_
  refine gs rfl ?_
  refine gs rfl ?_
  refine gs rfl ?_
  refine gs rfl ?_
  refine gs rfl ?_
  refine gs rfl ?_
  refine and_i rfl ?_
  exact qh (by decide +kernel) hQ
end
section
/-! FAMILIES OF HEAPS NEAR THE START: of the class the STEPs of two tables and z, of the reference the STEP and z (the class's cells then are any) -/
def hF (a b z : Int32) : AH := [.inr (6, [.ref 33, .ref 42, .ref 51, .ref 60, .ref 69, .ref 72, .int 0, .ref 75, .ref 77, .ref 79, .ref 88]),
  .inr (4, [.ref 34, .ref 35, .ref 36, .ref 37, .ref 38, .ref 39, .ref 40, .ref 41, .int 1, .int a, .int 0, .null, .null]),
  .inl (0, [5, 5, 5, 5, 5, 5, 5, 5]),
  .inl (0, [0, 0, 0, 0, 0, 0, 0, 0]),
  .inl (0, [0, 0, 0, 0, 0, 0, 0, 0]),
  .inl (0, [0, 0, 0, 0, 0, 0, 0, 0]),
  .inl (0, [0, 0, 0, 0, 0, 0, 0, 0]),
  .inl (0, [0, 0, 0, 0, 0, 0, 0, 0]),
  .inl (1, [0, 0, 0, 0, 0, 0, 0, 0]),
  .inl (0, [0, 0, 0, 0, 0, 0, 0, 0]),
  .inr (4, [.ref 43, .ref 44, .ref 45, .ref 46, .ref 47, .ref 48, .ref 49, .ref 50, .int 1, .int b, .int 0, .null, .null]),
  .inl (0, [5, 5, 5, 5, 5, 5, 5, 5]),
  .inl (0, [0, 0, 0, 0, 0, 0, 0, 0]),
  .inl (0, [0, 0, 0, 0, 0, 0, 0, 0]),
  .inl (0, [0, 0, 0, 0, 0, 0, 0, 0]),
  .inl (0, [0, 0, 0, 0, 0, 0, 0, 0]),
  .inl (0, [0, 0, 0, 0, 0, 0, 0, 0]),
  .inl (1, [0, 0, 0, 0, 0, 0, 0, 0]),
  .inl (0, [0, 0, 0, 0, 0, 0, 0, 0]),
  .inr (4, [.ref 52, .ref 53, .ref 54, .ref 55, .ref 56, .ref 57, .ref 58, .ref 59, .int 1, .int 0, .int 0, .null, .null]),
  .inl (0, [5, 5, 5, 5, 5, 5, 5, 5]),
  .inl (0, [0, 0, 0, 0, 0, 0, 0, 0]),
  .inl (0, [0, 0, 0, 0, 0, 0, 0, 0]),
  .inl (0, [0, 0, 0, 0, 0, 0, 0, 0]),
  .inl (0, [0, 0, 0, 0, 0, 0, 0, 0]),
  .inl (0, [0, 0, 0, 0, 0, 0, 0, 0]),
  .inl (1, [0, 0, 0, 0, 0, 0, 0, 0]),
  .inl (0, [0, 0, 0, 0, 0, 0, 0, 0]),
  .inr (4, [.ref 61, .ref 62, .ref 63, .ref 64, .ref 65, .ref 66, .ref 67, .ref 68, .int 1, .int 0, .int 0, .null, .null]),
  .inl (0, [5, 5, 5, 5, 5, 5, 5, 5]),
  .inl (0, [0, 0, 0, 0, 0, 0, 0, 0]),
  .inl (0, [0, 0, 0, 0, 0, 0, 0, 0]),
  .inl (0, [0, 0, 0, 0, 0, 0, 0, 0]),
  .inl (0, [0, 0, 0, 0, 0, 0, 0, 0]),
  .inl (0, [0, 0, 0, 0, 0, 0, 0, 0]),
  .inl (1, [0, 0, 0, 0, 0, 0, 0, 0]),
  .inl (0, [0, 0, 0, 0, 0, 0, 0, 0]),
  .inr (0, [.int z, .ref 70, .int 0, .ref 71, .int 0]),
  .inl (0, List.replicate 50 0),
  .inl (0, List.replicate 20 0),
  .inr (0, [.int 1, .ref 73, .int 0, .ref 74, .int 0]),
  .inl (0, List.replicate 50 0),
  .inl (0, List.replicate 20 0),
  .inr (2, [.ref 76, .int 0, .ref 70, .int 0, .ref 3, .int 0, .int (-1)]),
  .inl (0, List.replicate 50 0),
  .inr (5, [.int 0, .int 0, .int 0, .ref 78, .int 0]),
  .inl (0, List.replicate 40 0),
  .inr (50, [.ref 80, .ref 82, .ref 84, .ref 86]),
  .inr (3, [.int 0, .int 0, .ref 81]),
  .inl (0, List.replicate 40 0),
  .inr (3, [.int 0, .int 0, .ref 83]),
  .inl (0, List.replicate 40 0),
  .inr (3, [.int 0, .int 0, .ref 85]),
  .inl (0, List.replicate 40 0),
  .inr (3, [.int 0, .int 0, .ref 87]),
  .inl (0, List.replicate 40 0),
  .inl (0, [0, 0, 0, 0, 0, 0])]
def pad (f : Nat → AC) : AH := [f 0, f 1, f 2, f 3, f 4, f 5, f 6, f 7, f 8, f 9, f 10, f 11, f 12, f 13, f 14, f 15, f 16, f 17, f 18, f 19, f 20, f 21, f 22, f 23, f 24, f 25, f 26, f 27, f 28, f 29, f 30, f 31, f 32, f 33, f 34, f 35, f 36, f 37, f 38, f 39, f 40, f 41, f 42, f 43, f 44, f 45, f 46, f 47, f 48, f 49, f 50, f 51, f 52, f 53, f 54, f 55, f 56]
def rowS (a z : Int32) : List Int32 := [a, z, 0, 0, 0, -1, -1, 1, 5, 5, 5, 5, 5, 5, 5, 5, 0, 0, 0, 0, 0, 0, 0, 0, 0, 0, 0, 0, 0, 0, 0, 0, 0, 0, 0, 0, 0, 0, 0, 0, 0, 0, 0, 0, 0, 0, 0, 0, 0, 0, 0, 0, 0, 0, 0, 0, 0, 0, 0, 0, 0, 0, 0, 0, 0, 0, 0, 0, 0, 0, 0, 0, 0, 0, 0, 0, 0, 0, 0, 0, 0, 0, 0, 0, 0, 0, 0, 0, 0, 0, 0, 0, 0, 0, 0, 0, 0, 0, 0, 0, 0, 0, 0, 0, 0, 0, 0, 0, 0, 0, 0, 0, 0, 0, 0, 0, 0, 0, 0, 0, 0, 0, 0, 0, 0, 0, 0, 0, 0, 0, 0, 0, 0, 0, 0, 0, 0, 0, 0, 0, 0, 0, 0, 0, 0, 0, 0, 0, 0, 0, 0, 0, 0, 0, 0, 0, 0, 0, 0, 0, 0, 0, 0, 0, 0, 0, 0, 0, 0, 0, 0, 0, 0, 0, 0, 0, 0, 0, 0, 0, 0, 0, 0, 0, 0, 0, 0, 0, 0, 0, 0, 0, 0, 0, 0, 0, 0, 0, 0, 0, 0, 0, 0, 0, 0, 0, 0, 0, 0, 0, 0, 0, 0, 0, 0, 0, 0, 0, 0, 0, 0, 0, 0, 0, 0, 0, 0, 0, 0, 0, 0, 0, 0, 0]
def hG (a z : Int32) (T B : AC) : AH := [.inr (7, [.ref 90, .ref 91, .ref 92, .ref 93, .int 0, .int 0, .ref 94, .int 0, .int 0, .int 0, .int 0, .int 0, .int 0, .int 0, .int 0, .ref 95, .ref 96, .ref 97, .ref 98, .ref 99, .ref 100, .int 0, .int 0, .int 0, .int 0]), .inl (0, rowS a z), .inl (0, List.replicate 234 0), T, B, .inl (0, [0, 0, 0, 0, 0, 0]), .inl (0, [0, 0, 0, 0]), .inl (0, [0, 0, 0, 0]), .inl (0, List.replicate 160 0), .inl (0, List.replicate 40 0), .inl (0, [0, 0, 0, 0, 0, 0, 0, 0]), .inl (0, List.replicate 40 0)]
theorem hF_0 : hX0 ++ hM0 = hF 0 0 1 ++ hM0 := by decide +kernel
section FAM
variable {xs : List Int32} {d : Nat} {Q : QT}
set_option maxRecDepth 20000 in
set_option maxHeartbeats 4000000 in
theorem c_step33 {a b z : Int32} (hQ : Q (some (.int 0)) (hF (a + 1) b z ++ hM0)) : WP xs (d + 3) 40 0 0 [.ref 33] (hF a b z ++ hM0) Q := by
  refine and_i (Nat.le_of_ble_eq_true rfl) ?_
  refine gs rfl ?_
  refine gs rfl ?_
  refine and_i (Nat.le_of_ble_eq_true rfl) (cl0 (Nat.le_of_ble_eq_true rfl) (and_i (Nat.le_of_ble_eq_true rfl) ?_))
  refine gs rfl ?_
  refine gs rfl ?_
  refine gs rfl ?_
  refine gs rfl ?_
  refine gs rfl ?_
  refine gs rfl ?_
  refine gs rfl ?_
  refine and_i rfl ?_
  refine gs rfl ?_
  refine gs rfl ?_
  refine and_i (Nat.le_of_ble_eq_true rfl) (cl0 (Nat.le_of_ble_eq_true rfl) (and_i (Nat.le_of_ble_eq_true rfl) ?_))
  refine gs rfl ?_
  refine gs rfl ?_
  refine gs rfl ?_
  refine gs rfl ?_
  refine gs rfl ?_
  refine gs rfl ?_
  refine gs rfl ?_
  refine gs rfl ?_
  refine gs rfl ?_
  refine gs rfl ?_
  refine and_i rfl ?_
  refine gs rfl ?_
  refine gs rfl ?_
  refine gs rfl ?_
  refine gs rfl ?_
  refine gs rfl ?_
  refine gs rfl ?_
  refine gs rfl ?_
  refine gs rfl ?_
  refine gs rfl ?_
  refine gs rfl ?_
  refine gs rfl ?_
  refine gs rfl ?_
  refine gs rfl ?_
  refine and_3 (Nat.le_of_ble_eq_true rfl) (Nat.le_of_ble_eq_true rfl) trivial ?_
  refine gs rfl ?_
  refine gs rfl ?_
  refine and_i rfl ?_
  exact qh rfl hQ
set_option maxRecDepth 20000 in
set_option maxHeartbeats 4000000 in
theorem c_step42 {a b z : Int32} (hQ : Q (some (.int 0)) (hF a (b + 1) z ++ hM0)) : WP xs (d + 3) 40 0 0 [.ref 42] (hF a b z ++ hM0) Q := by
  refine and_i (Nat.le_of_ble_eq_true rfl) ?_
  refine gs rfl ?_
  refine gs rfl ?_
  refine and_i (Nat.le_of_ble_eq_true rfl) (cl0 (Nat.le_of_ble_eq_true rfl) (and_i (Nat.le_of_ble_eq_true rfl) ?_))
  refine gs rfl ?_
  refine gs rfl ?_
  refine gs rfl ?_
  refine gs rfl ?_
  refine gs rfl ?_
  refine gs rfl ?_
  refine gs rfl ?_
  refine and_i rfl ?_
  refine gs rfl ?_
  refine gs rfl ?_
  refine and_i (Nat.le_of_ble_eq_true rfl) (cl0 (Nat.le_of_ble_eq_true rfl) (and_i (Nat.le_of_ble_eq_true rfl) ?_))
  refine gs rfl ?_
  refine gs rfl ?_
  refine gs rfl ?_
  refine gs rfl ?_
  refine gs rfl ?_
  refine gs rfl ?_
  refine gs rfl ?_
  refine gs rfl ?_
  refine gs rfl ?_
  refine gs rfl ?_
  refine and_i rfl ?_
  refine gs rfl ?_
  refine gs rfl ?_
  refine gs rfl ?_
  refine gs rfl ?_
  refine gs rfl ?_
  refine gs rfl ?_
  refine gs rfl ?_
  refine gs rfl ?_
  refine gs rfl ?_
  refine gs rfl ?_
  refine gs rfl ?_
  refine gs rfl ?_
  refine gs rfl ?_
  refine and_3 (Nat.le_of_ble_eq_true rfl) (Nat.le_of_ble_eq_true rfl) trivial ?_
  refine gs rfl ?_
  refine gs rfl ?_
  refine and_i rfl ?_
  exact qh rfl hQ
set_option maxRecDepth 20000 in
set_option maxHeartbeats 4000000 in
theorem c_oneS {a z : Int32} {T B : AC} {f : Nat → AC} (hQ : Q none (pad f ++ hG (a + 1) z T B)) : WP xs (d + 3) 145 0 0 [.ref 89] (pad f ++ hG a z T B) Q := by
  refine and_i (Nat.le_of_ble_eq_true rfl) ?_
  refine gs rfl ?_
  refine gs rfl ?_
  refine and_i (Nat.le_of_ble_eq_true rfl) (cl0 (Nat.le_of_ble_eq_true rfl) (and_i (Nat.le_of_ble_eq_true rfl) ?_))
  refine gs rfl ?_
  refine gs rfl ?_
  refine gs rfl ?_
  refine gs rfl ?_
  refine gs rfl ?_
  refine gs rfl ?_
  refine gs rfl ?_
  refine gs rfl ?_
  refine gs rfl ?_
  refine and_2 rfl (vin rfl) ?_
  refine gs rfl ?_
  refine gs rfl ?_
  refine gs rfl ?_
  refine and_i rfl ?_
  refine gs rfl ?_
  refine gs rfl ?_
  refine gs rfl ?_
  refine gs rfl ?_
  refine gs rfl ?_
  refine gs rfl ?_
  refine gs rfl ?_
  refine gs rfl ?_
  refine and_2 rfl (vin rfl) ?_
  refine gs rfl ?_
  refine gs rfl ?_
  refine gs rfl ?_
  refine gs rfl ?_
  refine gs rfl ?_
  refine gs rfl ?_
  refine and_2 rfl (vin rfl) ?_
  refine gs rfl ?_
  refine gs rfl ?_
  refine gs rfl ?_
  refine and_3 (Nat.le_of_ble_eq_true rfl) rfl (vin rfl) ?_
  refine gs rfl ?_
  refine and_i rfl ?_
  exact qh rfl hQ
set_option maxRecDepth 20000 in
set_option maxHeartbeats 4000000 in
theorem c_drawn {a z : Int32} {T B : AC} {f : Nat → AC} (hQ : ∀ x z2, Q (some (.int x)) (pad f ++ hG a z2 T B)) : WP xs (d + 1) 149 0 0 [.ref 89] (pad f ++ hG a z T B) Q := by
  refine and_i (Nat.le_of_ble_eq_true rfl) ?_
  refine gs rfl ?_
  refine gs rfl ?_
  refine gs rfl ?_
  refine gs rfl ?_
  refine gs rfl ?_
  refine gs rfl ?_
  refine gs rfl ?_
  refine and_2 rfl (vin rfl) ?_
  refine gs rfl ?_
  refine gs rfl ?_
  refine gs rfl ?_
  refine gs rfl ?_
  refine gs rfl ?_
  refine and_3 (Nat.le_of_ble_eq_true rfl) rfl (vin rfl) ?_
  refine gs rfl ?_
  refine gs rfl ?_
  refine gs rfl ?_
  refine gs rfl ?_
  refine and_2 rfl (vin rfl) ?_
  refine gs rfl ?_
  refine gs rfl ?_
  refine gs rfl ?_
  refine and_i rfl ?_
  exact hQ _ _
set_option maxRecDepth 20000 in
set_option maxHeartbeats 4000000 in
theorem c_drawSham {a b z : Int32} (hQ : ∀ z2, Q none (hF a b z2 ++ hM0)) : WP xs (d + 2) 71 0 0 [.ref 32] (hF a b z ++ hM0) Q := by
  refine and_i (Nat.le_of_ble_eq_true rfl) ?_
  refine gs rfl ?_
  refine gs rfl ?_
  refine gs rfl ?_
  refine and_i (Nat.le_of_ble_eq_true rfl) (cl0 (Nat.le_of_ble_eq_true rfl) (and_i (Nat.le_of_ble_eq_true rfl) ?_))
  refine gs rfl ?_
  refine gs rfl ?_
  refine gs rfl ?_
  refine gs rfl ?_
  refine gs rfl ?_
  refine gs rfl ?_
  refine gs rfl ?_
  refine gs rfl ?_
  refine and_3 (Nat.le_of_ble_eq_true rfl) (Nat.le_of_ble_eq_true rfl) trivial ?_
  refine gs rfl ?_
  refine gs rfl ?_
  refine gs rfl ?_
  refine gs rfl ?_
  refine gs rfl ?_
  refine and_i rfl ?_
  refine gs rfl ?_
  refine gs rfl ?_
  refine gs rfl ?_
  refine gs rfl ?_
  refine gs rfl ?_
  refine gs rfl ?_
  refine and_i rfl ?_
  exact hQ _
set_option maxRecDepth 20000 in
set_option maxHeartbeats 4000000 in
theorem c_think (hQ : Q (some (.ref 42)) (hF 0 0 1 ++ hM0)) : WP xs (d + 2) 74 0 0 [.ref 32] (hF 0 0 1 ++ hM0) Q := by
  refine and_i (Nat.le_of_ble_eq_true rfl) ?_
  refine gs rfl ?_
  refine gs rfl ?_
  refine gs rfl ?_
  refine gs rfl ?_
  refine gs rfl ?_
  refine and_i (Nat.le_of_ble_eq_true rfl) (cl0 (Nat.le_of_ble_eq_true rfl) (and_i (Nat.le_of_ble_eq_true rfl) ?_))
  refine gs rfl ?_
  refine gs rfl ?_
  refine gs rfl ?_
  refine gs rfl ?_
  refine gs rfl ?_
  refine gs rfl ?_
  refine gs rfl ?_
  refine gs rfl ?_
  refine and_3 (Nat.le_of_ble_eq_true rfl) (Nat.le_of_ble_eq_true rfl) (Nat.le_of_ble_eq_true rfl) ?_
  refine and_4 rfl (Or.inl rfl) (by decide) (by decide) ?_
  refine and_4 (by decide) (Nat.le_of_ble_eq_true rfl) (Nat.le_of_ble_eq_true rfl) (fun q => by cases q) ?_
  refine gs rfl ?_
  refine gs rfl ?_
  refine gs rfl ?_
  refine gs rfl ?_
  refine gs rfl ?_
  refine gs rfl ?_
  refine gs rfl ?_
  refine gs rfl ?_
  refine and_3 (Nat.le_of_ble_eq_true rfl) (Nat.le_of_ble_eq_true rfl) (Nat.le_of_ble_eq_true rfl) ?_
  refine and_4 rfl (Or.inl rfl) (by decide) (by decide) ?_
  refine and_4 (by decide) (Nat.le_of_ble_eq_true rfl) (Nat.le_of_ble_eq_true rfl) (fun q => by cases q) ?_
  refine gs rfl ?_
  refine gs rfl ?_
  refine gs rfl ?_
  refine gs rfl ?_
  refine gs rfl ?_
  refine gs rfl ?_
  refine gs rfl ?_
  refine gs rfl ?_
  refine and_3 (Nat.le_of_ble_eq_true rfl) (Nat.le_of_ble_eq_true rfl) (Nat.le_of_ble_eq_true rfl) ?_
  refine and_4 rfl (Or.inl rfl) (by decide) (by decide) ?_
  refine and_4 (by decide) (Nat.le_of_ble_eq_true rfl) (Nat.le_of_ble_eq_true rfl) (fun q => by cases q) ?_
  refine gs rfl ?_
  refine gs rfl ?_
  refine gs rfl ?_
  refine gs rfl ?_
  refine gs rfl ?_
  refine gs rfl ?_
  refine gs rfl ?_
  refine gs rfl ?_
  refine and_3 (Nat.le_of_ble_eq_true rfl) (Nat.le_of_ble_eq_true rfl) (Nat.le_of_ble_eq_true rfl) ?_
  refine and_4 rfl (Or.inl rfl) (by decide) (by decide) ?_
  refine and_4 (by decide) (Nat.le_of_ble_eq_true rfl) (Nat.le_of_ble_eq_true rfl) (fun q => by cases q) ?_
  refine gs rfl ?_
  refine gs rfl ?_
  refine gs rfl ?_
  refine gs rfl ?_
  refine gs rfl ?_
  refine gs rfl ?_
  refine gs rfl ?_
  refine gs rfl ?_
  refine and_3 (Nat.le_of_ble_eq_true rfl) (Nat.le_of_ble_eq_true rfl) (Nat.le_of_ble_eq_true rfl) ?_
  refine and_4 rfl (Or.inl rfl) (by decide) (by decide) ?_
  refine and_4 (by decide) (Nat.le_of_ble_eq_true rfl) (Nat.le_of_ble_eq_true rfl) (fun q => by cases q) ?_
  refine gs rfl ?_
  refine gs rfl ?_
  refine gs rfl ?_
  refine gs rfl ?_
  refine gs rfl ?_
  refine gs rfl ?_
  refine gs rfl ?_
  refine gs rfl ?_
  refine and_3 (Nat.le_of_ble_eq_true rfl) (Nat.le_of_ble_eq_true rfl) (Nat.le_of_ble_eq_true rfl) ?_
  refine and_4 rfl (Or.inl rfl) (by decide) (by decide) ?_
  refine and_4 (by decide) (Nat.le_of_ble_eq_true rfl) (Nat.le_of_ble_eq_true rfl) (fun q => by cases q) ?_
  refine gs rfl ?_
  refine gs rfl ?_
  refine gs rfl ?_
  refine gs rfl ?_
  refine gs rfl ?_
  refine gs rfl ?_
  refine gs rfl ?_
  refine gs rfl ?_
  refine and_3 (Nat.le_of_ble_eq_true rfl) (Nat.le_of_ble_eq_true rfl) (Nat.le_of_ble_eq_true rfl) ?_
  refine and_4 rfl (Or.inr rfl) (by decide) (by decide) ?_
  refine and_4 (by decide) (Nat.le_of_ble_eq_true rfl) (Nat.le_of_ble_eq_true rfl) (fun _ => by decide) ?_
  refine gs rfl ?_
  refine gs rfl ?_
  refine gs rfl ?_
  refine gs rfl ?_
  refine and_3 (Nat.le_of_ble_eq_true rfl) (Nat.le_of_ble_eq_true rfl) trivial ?_
  refine gs rfl ?_
  refine gs rfl ?_
  refine gs rfl ?_
  refine gs rfl ?_
  refine and_3 (Nat.le_of_ble_eq_true rfl) (Nat.le_of_ble_eq_true rfl) trivial ?_
  refine gs rfl ?_
  refine gs rfl ?_
  refine gs rfl ?_
  refine gs rfl ?_
  refine and_3 (Nat.le_of_ble_eq_true rfl) (Nat.le_of_ble_eq_true rfl) trivial ?_
  refine gs rfl ?_
  refine gs rfl ?_
  refine gs rfl ?_
  refine gs rfl ?_
  refine and_3 (Nat.le_of_ble_eq_true rfl) (Nat.le_of_ble_eq_true rfl) trivial ?_
  refine gs rfl ?_
  refine gs rfl ?_
  refine gs rfl ?_
  refine gs rfl ?_
  refine and_3 (Nat.le_of_ble_eq_true rfl) (Nat.le_of_ble_eq_true rfl) trivial ?_
  refine gs rfl ?_
  refine and_i rfl ?_
  refine gs rfl ?_
  refine gs rfl ?_
  refine gs rfl ?_
  refine and_2 rfl (fun z q => by cases q) ?_
  exact qh (by decide +kernel) hQ
end FAM
end
section
/-! LOOPS: an array filled, an array copied, steps with nobody there -/
theorem cA_i {xs : List Int32} {h : AH} {p k : Nat} {l : List Int32} {f : Nat → List Int32 → Prop} (e : smC xs h p = some (.inl (k, l))) (g : f k l) : cA xs h p f := by
  unfold cA
  rw [e]
  exact g
theorem vinN {n m : Nat} (h : n < m) (hm : m < 2 ^ 31) : vp_in (nI n) m := vp_in_nI h hm
theorem smC_set {xs : List Int32} {h : AH} {p q : Nat} {c : AC} (hq : 32 ≤ q) (hne : p ≠ q) : smC xs (h.set (q - 32) c) p = smC xs h p := by
  unfold smC
  by_cases hp : p < 32
  · rw [if_pos hp, if_pos hp]
  · rw [if_neg hp, if_neg hp, List.getElem?_set_ne (by omega)]
theorem smC_own {xs : List Int32} {h : AH} {q : Nat} {c c0 : AC} (hq : 32 ≤ q) (h0 : h[q - 32]? = some c0) : smC xs (h.set (q - 32) c) q = some c := by
  unfold smC
  rw [if_neg (by omega), List.getElem?_set_self (List.getElem?_eq_some_iff.mp h0).1]
theorem set_own {h : AH} {i : Nat} {c : AC} (h0 : h[i]? = some c) : h.set i c = h := by
  apply List.ext_getElem?
  intro j
  rw [List.getElem?_set]
  by_cases hj : i = j
  · subst hj
    rw [if_pos rfl, h0, if_pos (List.getElem?_eq_some_iff.mp h0).1]
  · rw [if_neg hj]
theorem take_step {f g : List Int32} {j : Nat} (hf : j < f.length) (hg : j < g.length) : (f.take j ++ g.drop j).set j (f.getD j 0) = f.take (j + 1) ++ g.drop (j + 1) := by
  apply List.ext_getElem?
  intro i
  have hl : (f.take j).length = j := by rw [List.length_take]; omega
  have hl2 : (f.take (j + 1)).length = j + 1 := by rw [List.length_take]; omega
  rw [List.getElem?_set]
  by_cases hi : j = i
  · subst hi
    rw [if_pos rfl, if_pos (by rw [List.length_append, hl, List.length_drop]; omega), List.getElem?_append_left (by omega), List.getElem?_take, if_pos (by omega), List.getD_eq_getElem?_getD, List.getElem?_eq_getElem hf]
    rfl
  · rw [if_neg hi]
    by_cases h2 : i < j
    · rw [List.getElem?_append_left (by omega), List.getElem?_append_left (by omega), List.getElem?_take, List.getElem?_take, if_pos h2, if_pos (by omega)]
    · rw [List.getElem?_append_right (by omega), List.getElem?_append_right (by omega), List.getElem?_drop, List.getElem?_drop, hl, hl2]
      congr 1
      omega
theorem ushr0 (x : Int32) : (x.toUInt32 >>> ((0 : Int32).toUInt32 &&& Int32.toUInt32 31)).toInt32 = x := by
  have e : ((0 : Int32).toUInt32 &&& Int32.toUInt32 31) = 0 := by decide
  rw [e]
  simp
theorem set_e {h : AH} {i : Nat} {c c' : AC} (e : c = c') : h.set i c = h.set i c' := by rw [e]
theorem set_n0 {h : AH} {i : Nat} {a c c' : AC} (e : c = c') : (h.set i a).set i c = h.set i c' := by rw [List.set_set, e]
theorem set_n1 {h : AH} {i j : Nat} {a c c' bj : AC} (hj : i ≠ j) (e : c = c') : ((h.set i a).set j bj).set i c = (h.set j bj).set i c' := by
  subst e
  apply List.ext_getElem?
  intro z
  simp only [List.getElem?_set, List.length_set]
  by_cases hz : i = z
  · subst hz
    simp
  · simp [hz]
theorem set_n2 {h : AH} {i j k : Nat} {a c c' bj bk : AC} (hj : i ≠ j) (hk : i ≠ k) (e : c = c') : (((h.set i a).set j bj).set k bk).set i c = ((h.set j bj).set k bk).set i c' := by
  subst e
  apply List.ext_getElem?
  intro z
  simp only [List.getElem?_set, List.length_set]
  by_cases hz : i = z
  · subst hz
    simp
  · simp [hz]
theorem set_n3 {h : AH} {i j k l : Nat} {a c c' bj bk bl : AC} (hj : i ≠ j) (hk : i ≠ k) (hl : i ≠ l) (e : c = c') : ((((h.set i a).set j bj).set k bk).set l bl).set i c = (((h.set j bj).set k bk).set l bl).set i c' := by
  subst e
  apply List.ext_getElem?
  intro z
  simp only [List.getElem?_set, List.length_set]
  by_cases hz : i = z
  · subst hz
    simp
  · simp [hz]
theorem set_n4 {h : AH} {i j k l m : Nat} {a c c' bj bk bl bm : AC} (hj : i ≠ j) (hk : i ≠ k) (hl : i ≠ l) (hm : i ≠ m) (e : c = c') : (((((h.set i a).set j bj).set k bk).set l bl).set m bm).set i c = ((((h.set j bj).set k bk).set l bl).set m bm).set i c' := by
  subst e
  apply List.ext_getElem?
  intro z
  simp only [List.getElem?_set, List.length_set]
  by_cases hz : i = z
  · subst hz
    simp
  · simp [hz]
theorem set_idem {h : AH} {i : Nat} {c c' : AC} (h0 : h[i]? = some c) (e : c' = c) : h.set i c' = h := by
  rw [e]
  exact set_own h0
theorem gwl {xs : List Int32} {call : CT} {y : Nat} {Q : QT} {pc : Nat} {L L' : LoS} {st : List Value} {h : AH} {mc ms : Nat} (e : L = L') (g : gw xs call y Q pc L' st h mc ms) : gw xs call y Q pc L st h mc ms := by
  rw [e]
  exact g
section LOOPS
variable {xs : List Int32} {d : Nat} {h : AH} {Q : QT}
/-- moveAll: 234 numbers from one array to another -/
theorem c_moveAll {o p q : Nat} {f g : List Int32} (hp : smC xs h p = some (.inl (0, f))) (hq32 : 32 ≤ q) (hq : h[q - 32]? = some (.inl (0, g))) (hf : f.length = 234) (hg : g.length = 234) (hne : p ≠ q) (hQ : Q none (h.set (q - 32) (.inl (0, f)))) : WP xs (d + 1) 110 0 0 [.ref o, .ref p, .ref q] h Q := by
  have key : ∀ (k j : Nat), j + k = 234 → gw xs (WP xs d) 110 Q 2 [some (.ref o), some (.ref p), some (.ref q), some (.int (nI j))] [] (h.set (q - 32) (.inl (0, f.take j ++ g.drop j))) 0 0 := by
    intro k
    induction k with
    | zero =>
      intro j hj
      have hj : j = 234 := by omega
      subst hj
      refine gs rfl ?_
      refine gs rfl ?_
      refine gs rfl ?_
      refine gs rfl ?_
      refine and_i rfl ?_
      rw [List.take_of_length_le (by omega), List.drop_of_length_le (by omega), List.append_nil]
      exact hQ
    | succ k ih =>
      intro j hj
      have hlen : (f.take j ++ g.drop j).length = 234 := by
        rw [List.length_append, List.length_take, List.length_drop]
        omega
      refine gs rfl ?_
      refine gs rfl ?_
      refine gs rfl ?_
      refine ifF (fun z => absurd ((le_k (by decide : (234 : Int32).toInt = 234) (nI_toInt (n := j) (by omega))).mp z) (by omega)) ?_
      refine gs rfl ?_
      refine gs rfl ?_
      refine gs rfl ?_
      refine gs rfl ?_
      refine gs rfl ?_
      refine cA_i ((smC_set hq32 hne).trans hp) (and_2 rfl (by rw [hf]; exact vinN (by omega) (by decide)) ?_)
      refine gs rfl ?_
      refine and_i hq32 (cA_i (smC_own hq32 hq) (and_2 rfl (by rw [hlen]; exact vinN (by omega) (by decide)) ?_))
      refine gs rfl ?_
      refine gs rfl ?_
      have h9 := ih (j + 1) (by omega)
      rw [← take_step (by omega) (by omega), ← nI_1] at h9
      rw [List.set_set, nI_clamp (by omega)]
      exact h9
  refine and_i (Nat.le_of_ble_eq_true rfl) ?_
  refine gs rfl ?_
  refine gs rfl ?_
  have h9 := key 234 0 (by omega)
  rw [List.take_zero, List.nil_append, List.drop_zero, set_own hq] at h9
  exact h9
theorem c_goOn33 {n b z : Int32} (h0 : 0 ≤ n.toInt) (h6 : n.toInt ≤ 60) (hQ : Q none (hF n b z ++ hM0)) : WP xs (d + 4) 41 0 0 [.ref 33, .int n] (hF 0 b z ++ hM0) Q := by
  have key : ∀ (k j : Nat), j + k = n.toInt.toNat → gw xs (WP xs (d + 3)) 41 Q 2 [some (.ref 33), some (.int n), some (.int (nI j))] [] (hF (nI j) b z ++ hM0) 0 0 := by
    intro k
    induction k with
    | zero =>
      intro j hj
      have hn : nI j = n := by
        apply Int32.toInt_inj.mp
        rw [nI_toInt (by omega)]
        omega
      refine gs rfl ?_
      refine gs rfl ?_
      refine gs rfl ?_
      refine ifT ((le_k rfl (nI_toInt (n := j) (by omega))).mpr (by omega)) ?_
      refine gs rfl ?_
      refine and_i rfl ?_
      rw [hn]
      exact hQ
    | succ k ih =>
      intro j hj
      refine gs rfl ?_
      refine gs rfl ?_
      refine gs rfl ?_
      refine ifF (fun z => absurd ((le_k rfl (nI_toInt (n := j) (by omega))).mp z) (by omega)) ?_
      refine gs rfl ?_
      refine gs rfl ?_
      refine and_i (Nat.le_of_ble_eq_true rfl) (cl0 (Nat.le_of_ble_eq_true rfl) (c_step33 ?_))
      refine gs rfl ?_
      refine gs rfl ?_
      refine gs rfl ?_
      have h9 := ih (j + 1) (by omega)
      rw [← nI_1] at h9
      exact h9
  refine and_i (Nat.le_of_ble_eq_true rfl) ?_
  refine gs rfl ?_
  refine gs rfl ?_
  exact key n.toInt.toNat 0 (by omega)
theorem c_goOn42 {n a z : Int32} (h0 : 0 ≤ n.toInt) (h6 : n.toInt ≤ 60) (hQ : Q none (hF a n z ++ hM0)) : WP xs (d + 4) 41 0 0 [.ref 42, .int n] (hF a 0 z ++ hM0) Q := by
  have key : ∀ (k j : Nat), j + k = n.toInt.toNat → gw xs (WP xs (d + 3)) 41 Q 2 [some (.ref 42), some (.int n), some (.int (nI j))] [] (hF a (nI j) z ++ hM0) 0 0 := by
    intro k
    induction k with
    | zero =>
      intro j hj
      have hn : nI j = n := by
        apply Int32.toInt_inj.mp
        rw [nI_toInt (by omega)]
        omega
      refine gs rfl ?_
      refine gs rfl ?_
      refine gs rfl ?_
      refine ifT ((le_k rfl (nI_toInt (n := j) (by omega))).mpr (by omega)) ?_
      refine gs rfl ?_
      refine and_i rfl ?_
      rw [hn]
      exact hQ
    | succ k ih =>
      intro j hj
      refine gs rfl ?_
      refine gs rfl ?_
      refine gs rfl ?_
      refine ifF (fun z => absurd ((le_k rfl (nI_toInt (n := j) (by omega))).mp z) (by omega)) ?_
      refine gs rfl ?_
      refine gs rfl ?_
      refine and_i (Nat.le_of_ble_eq_true rfl) (cl0 (Nat.le_of_ble_eq_true rfl) (c_step42 ?_))
      refine gs rfl ?_
      refine gs rfl ?_
      refine gs rfl ?_
      have h9 := ih (j + 1) (by omega)
      rw [← nI_1] at h9
      exact h9
  refine and_i (Nat.le_of_ble_eq_true rfl) ?_
  refine gs rfl ?_
  refine gs rfl ?_
  exact key n.toInt.toNat 0 (by omega)
theorem c_passes {n z : Int32} {T B : AC} {f : Nat → AC} (h0 : 0 ≤ n.toInt) (h6 : n.toInt ≤ 60) (hQ : Q none (pad f ++ hG n z T B)) : WP xs (d + 4) 146 0 0 [.ref 89, .int n] (pad f ++ hG 0 z T B) Q := by
  have key : ∀ (k j : Nat), j + k = n.toInt.toNat → gw xs (WP xs (d + 3)) 146 Q 2 [some (.ref 89), some (.int n), some (.int (nI j))] [] (pad f ++ hG (nI j) z T B) 0 0 := by
    intro k
    induction k with
    | zero =>
      intro j hj
      have hn : nI j = n := by
        apply Int32.toInt_inj.mp
        rw [nI_toInt (by omega)]
        omega
      refine gs rfl ?_
      refine gs rfl ?_
      refine gs rfl ?_
      refine ifT ((le_k rfl (nI_toInt (n := j) (by omega))).mpr (by omega)) ?_
      refine gs rfl ?_
      refine and_i rfl ?_
      rw [hn]
      exact hQ
    | succ k ih =>
      intro j hj
      refine gs rfl ?_
      refine gs rfl ?_
      refine gs rfl ?_
      refine ifF (fun z => absurd ((le_k rfl (nI_toInt (n := j) (by omega))).mp z) (by omega)) ?_
      refine gs rfl ?_
      refine gs rfl ?_
      refine and_i (Nat.le_of_ble_eq_true rfl) (cl0 (Nat.le_of_ble_eq_true rfl) (c_oneS ?_))
      refine gs rfl ?_
      refine gs rfl ?_
      have h9 := ih (j + 1) (by omega)
      rw [← nI_1] at h9
      exact h9
  refine and_i (Nat.le_of_ble_eq_true rfl) ?_
  refine gs rfl ?_
  refine gs rfl ?_
  exact key n.toInt.toNat 0 (by omega)
/-- loose's loop, of the class -/
theorem g_loose {n b z : Int32} {mc ms : Nat} (h0 : 0 ≤ n.toInt) (h6 : n.toInt ≤ 60) (hk : ∀ z2, gw xs (WP xs (d + 3)) 72 Q 63 [some (.ref 32), some (.int n), some (.int n)] [] (hF n b z2 ++ hM0) mc ms) : gw xs (WP xs (d + 3)) 72 Q 40 [some (.ref 32), some (.int n), some (.int 0)] [] (hF 0 b z ++ hM0) mc ms := by
  have key : ∀ (k j : Nat) (z : Int32), j + k = n.toInt.toNat → gw xs (WP xs (d + 3)) 72 Q 40 [some (.ref 32), some (.int n), some (.int (nI j))] [] (hF (nI j) b z ++ hM0) mc ms := by
    intro k
    induction k with
    | zero =>
      intro j z hj
      have hn : nI j = n := by
        apply Int32.toInt_inj.mp
        rw [nI_toInt (by omega)]
        omega
      rw [hn]
      refine gs rfl ?_
      refine gs rfl ?_
      refine gs rfl ?_
      refine ifT (Int32.le_refl _) ?_
      exact hk z
    | succ k ih =>
      intro j z hj
      refine gs rfl ?_
      refine gs rfl ?_
      refine gs rfl ?_
      refine ifF (fun z => absurd ((le_k rfl (nI_toInt (n := j) (by omega))).mp z) (by omega)) ?_
      refine gs rfl ?_
      refine gs rfl ?_
      refine and_i (Nat.le_of_ble_eq_true rfl) (cl0 (Nat.le_of_ble_eq_true rfl) (c_drawSham (fun z2 => ?_)))
      refine gs rfl ?_
      refine gs rfl ?_
      refine gs rfl ?_
      refine and_i (Nat.le_of_ble_eq_true rfl) (cl0 (Nat.le_of_ble_eq_true rfl) (c_step33 ?_))
      refine gs rfl ?_
      refine gs rfl ?_
      refine gs rfl ?_
      have h9 := ih (j + 1) z2 (by omega)
      rw [← nI_1] at h9
      exact h9
  exact key n.toInt.toNat 0 z (by omega)
set_option maxRecDepth 20000 in
/-- loose's loop, of the reference -/
theorem g_looseM {n z : Int32} {T B : AC} {f : Nat → AC} {mc ms : Nat} {o3 : Option Value} (h0 : 0 ≤ n.toInt) (h6 : n.toInt ≤ 60) (hk : ∀ z2 o3, gw xs (WP xs (d + 3)) 150 Q 89 [some (.ref 89), some (.int n), some (.int n), o3] [] (pad f ++ hG n z2 T B) mc ms) : gw xs (WP xs (d + 3)) 150 Q 40 [some (.ref 89), some (.int n), some (.int 0), o3] [] (pad f ++ hG 0 z T B) mc ms := by
  have key : ∀ (k j : Nat) (z : Int32) (o3 : Option Value), j + k = n.toInt.toNat → gw xs (WP xs (d + 3)) 150 Q 40 [some (.ref 89), some (.int n), some (.int (nI j)), o3] [] (pad f ++ hG (nI j) z T B) mc ms := by
    intro k
    induction k with
    | zero =>
      intro j z o3 hj
      have hn : nI j = n := by
        apply Int32.toInt_inj.mp
        rw [nI_toInt (by omega)]
        omega
      rw [hn]
      refine gs rfl ?_
      refine gs rfl ?_
      refine gs rfl ?_
      refine ifT (Int32.le_refl _) ?_
      exact hk z o3
    | succ k ih =>
      intro j z o3 hj
      refine gs rfl ?_
      refine gs rfl ?_
      refine gs rfl ?_
      refine ifF (fun z => absurd ((le_k rfl (nI_toInt (n := j) (by omega))).mp z) (by omega)) ?_
      refine gs rfl ?_
      refine gs rfl ?_
      refine and_i (Nat.le_of_ble_eq_true rfl) (cl0 (Nat.le_of_ble_eq_true rfl) (c_drawn (fun x z2 => ?_)))
      refine gs rfl ?_
      refine gs rfl ?_
      refine gs rfl ?_
      refine gs rfl ?_
      refine gs rfl ?_
      refine and_2 rfl (vin rfl) ?_
      refine gs rfl ?_
      refine gs rfl ?_
      refine gs rfl ?_
      refine and_i (Nat.le_of_ble_eq_true rfl) (cl0 (Nat.le_of_ble_eq_true rfl) (c_oneS ?_))
      refine gs rfl ?_
      refine gs rfl ?_
      have h9 := ih (j + 1) z2 (some (.int x)) (by omega)
      rw [← nI_1] at h9
      exact h9
  exact key n.toInt.toNat 0 z o3 (by omega)
/-- the class's cells, whatever they are now -/
theorem FRg {call : CT} {y pc mc ms : Nat} {L : LoS} {st : List Value} (e : h = pad (fun i => h.getD i (.inl (0, []))) ++ hM0) (g : ∀ f, gw xs call y Q pc L st (pad f ++ hM0) mc ms) : gw xs call y Q pc L st h mc ms := by
  rw [e]
  exact g _
end LOOPS
end
section
/-! THE LAW'S CASES 8, over two new objects -/
set_option maxRecDepth 20000 in
set_option maxHeartbeats 1000000 in
theorem lc_8 {s0 s1 s2 s3 s4 s5 : Int32} {d mc ms : Nat} : gw [s0, s1, s2, s3, s4, s5] (WP [s0, s1, s2, s3, s4, s5] (d + 20)) 190 (fun r _ => r = some (.int 1)) 472 [some (.ref 0), some (.ref 32), some (.ref 89), some (.int 0)] [] (hX0 ++ hM0) mc ms := by
  refine gs rfl ?_
  refine gs rfl ?_
  refine gs rfl ?_
  refine gs rfl ?_
  refine gs rfl ?_
  refine gs rfl ?_
  refine and_2 rfl (vin rfl) ?_
  refine gwst (st' := .int s1 :: _) rfl ?_
  refine gs rfl ?_
  refine gs rfl ?_
  refine gs rfl ?_
  refine gs rfl ?_
  refine gs rfl ?_
  refine gs rfl ?_
  refine gs rfl ?_
  refine gs rfl ?_
  refine and_2 rfl (vin rfl) ?_
  refine gwst (st' := .int s2 :: _) rfl ?_
  refine gs rfl ?_
  refine gs rfl ?_
  refine gs rfl ?_
  refine gs rfl ?_
  refine gs rfl ?_
  refine gs rfl ?_
  refine gs rfl ?_
  refine gs rfl ?_
  refine gs rfl ?_
  refine and_2 rfl (vin rfl) ?_
  refine gwst (st' := .int s3 :: _) rfl ?_
  refine gs rfl ?_
  refine and_i (Nat.le_of_ble_eq_true rfl) (cl0 (Nat.le_of_ble_eq_true rfl) (and_i (Nat.le_of_ble_eq_true rfl) ?_))
  refine gwl (L' := [some (.ref 32), some (.long _), none, some (.int _), none]) rfl ?_
  refine gs rfl ?_
  refine gs rfl ?_
  refine gs rfl ?_
  refine ifs (fun c1 => ?_) (fun c1 => ?_)
  · have d2 : (s3).toInt < 1 := (lt_k (by rfl) (by rfl)).mp c1
    refine gs rfl ?_
    refine gs rfl ?_
    refine gs rfl ?_
    refine and_i (Nat.le_of_ble_eq_true rfl) (cl0 (Nat.le_of_ble_eq_true rfl) (and_i (Nat.le_of_ble_eq_true rfl) ?_))
    refine gwl (L' := [some (.ref 32), some (.int (1))]) rfl ?_
    refine gs rfl ?_
    refine gs rfl ?_
    refine gs rfl ?_
    refine gs rfl ?_
    refine gs rfl ?_
    refine and_2 rfl (vin rfl) ?_
    refine gwst (st' := .int (0) :: _) rfl ?_
    refine gs rfl ?_
    refine gs rfl ?_
    refine gs rfl ?_
    refine and_3 (Nat.le_of_ble_eq_true rfl) rfl (vin rfl) ?_
    refine gs rfl ?_
    refine gs rfl ?_
    refine gs rfl ?_
    refine gs rfl ?_
    refine and_i rfl ?_
    refine gs rfl ?_
    refine and_i rfl ?_
    refine FRg rfl (fun f => ?_)
    refine gs rfl ?_
    refine gs rfl ?_
    refine gs rfl ?_
    refine gs rfl ?_
    refine gs rfl ?_
    refine gs rfl ?_
    refine and_2 rfl (vin rfl) ?_
    refine gwst (st' := .int s1 :: _) rfl ?_
    refine gs rfl ?_
    refine gs rfl ?_
    refine gs rfl ?_
    refine gs rfl ?_
    refine gs rfl ?_
    refine gs rfl ?_
    refine gs rfl ?_
    refine gs rfl ?_
    refine and_2 rfl (vin rfl) ?_
    refine gwst (st' := .int s2 :: _) rfl ?_
    refine gs rfl ?_
    refine gs rfl ?_
    refine gs rfl ?_
    refine gs rfl ?_
    refine gs rfl ?_
    refine gs rfl ?_
    refine gs rfl ?_
    refine gs rfl ?_
    refine gs rfl ?_
    refine and_2 rfl (vin rfl) ?_
    refine gwst (st' := .int s3 :: _) rfl ?_
    refine gs rfl ?_
    refine and_i (Nat.le_of_ble_eq_true rfl) (cl0 (Nat.le_of_ble_eq_true rfl) (and_i (Nat.le_of_ble_eq_true rfl) ?_))
    refine gwl (L' := [some (.ref 89), some (.long _), none, some (.int _), none]) rfl ?_
    refine gs rfl ?_
    refine gs rfl ?_
    refine gs rfl ?_
    refine gs rfl ?_
    refine and_i (Nat.le_of_ble_eq_true rfl) (cl0 (Nat.le_of_ble_eq_true rfl) (and_i (Nat.le_of_ble_eq_true rfl) ?_))
    refine gwl (L' := [some (.int _), some (.int (1)), some (.int (8))]) rfl ?_
    refine gs rfl ?_
    refine gs rfl ?_
    refine gs rfl ?_
    refine ifT ((lt_k (a := (s3).toInt) (b := 1) (by rfl) (by rfl)).mpr (by omega)) ?_
    refine gs rfl ?_
    refine gs rfl ?_
    refine and_2 rfl (Or.inl rfl) ?_
    refine gs rfl ?_
    refine gs rfl ?_
    refine gs rfl ?_
    refine gs rfl ?_
    refine and_i (Nat.le_of_ble_eq_true rfl) (cl0 (Nat.le_of_ble_eq_true rfl) (and_i (Nat.le_of_ble_eq_true rfl) ?_))
    refine gwl (L' := [some (.ref 89), some (.int (-1000000001))]) rfl ?_
    refine gs rfl ?_
    refine gs rfl ?_
    refine gs rfl ?_
    refine gs rfl ?_
    refine gs rfl ?_
    refine gs rfl ?_
    refine gs rfl ?_
    refine and_2 rfl (vin rfl) ?_
    refine gwst (st' := .int (0) :: _) rfl ?_
    refine gs rfl ?_
    refine gs rfl ?_
    refine gs rfl ?_
    refine and_3 (Nat.le_of_ble_eq_true rfl) rfl (vin rfl) ?_
    refine gs rfl ?_
    refine gs rfl ?_
    refine and_i rfl ?_
    refine gs rfl ?_
    refine and_i rfl ?_
    refine gs rfl ?_
    refine gs rfl ?_
    refine gs rfl ?_
    refine gwl (L' := [some (.ref 0), some (.ref 32), some (.ref 89), some (.int (6))]) rfl ?_
    refine gs rfl ?_
    refine gs rfl ?_
    refine gs rfl ?_
    refine and_i (Or.inl rfl) ?_
    refine gwst (congrArg (fun z => Value.int z :: _) (alen_k (n := 6) (by rfl))) ?_
    refine gs rfl ?_
    refine gs rfl ?_
    refine gs rfl ?_
    refine gs rfl ?_
    refine gs rfl ?_
    refine and_2 rfl (Or.inr rfl) ?_
    exact rfl
  · have d2 : ¬ ((s3).toInt < 1) := fun q => c1 ((lt_k (by rfl) (by rfl)).mpr q)
    refine gs rfl ?_
    refine gs rfl ?_
    refine gs rfl ?_
    refine ifs (fun c3 => ?_) (fun c3 => ?_)
    · have d4 : (s3).toInt ≤ 8 := (le_k (by rfl) (by rfl)).mp c3
      refine gs rfl ?_
      refine gs rfl ?_
      refine gs rfl ?_
      refine gs rfl ?_
      refine gs rfl ?_
      refine gs rfl ?_
      have b5 : (((50 : Int32) - s3)).toInt = (50) - (s3).toInt := sub_k (by rfl) (by rfl) (by omega) (by omega)
      refine gs rfl ?_
      refine ifT ((le_k (a := 0) (b := (((50 : Int32) - s3)).toInt) (by rfl) (by rfl)).mpr (by omega)) ?_
      refine gs rfl ?_
      refine gs rfl ?_
      refine gs rfl ?_
      refine gs rfl ?_
      refine gs rfl ?_
      refine ifF ((fun q => absurd ((le_k (a := (s3).toInt) (b := 0) (by rfl) (by rfl)).mp q) (by omega))) ?_
      refine gs rfl ?_
      refine gs rfl ?_
      refine gs rfl ?_
      refine gs rfl ?_
      refine gs rfl ?_
      refine gs rfl ?_
      refine gs rfl ?_
      refine gs rfl ?_
      refine gs rfl ?_
      refine gs rfl ?_
      refine gs rfl ?_
      refine gs rfl ?_
      refine gs rfl ?_
      refine gs rfl ?_
      refine gs rfl ?_
      refine and_3 (Nat.le_of_ble_eq_true rfl) rfl (vin rfl) ?_
      refine gs rfl ?_
      refine gs rfl ?_
      refine gs rfl ?_
      refine gs rfl ?_
      refine gs rfl ?_
      refine gs rfl ?_
      refine gs rfl ?_
      refine and_3 (Nat.le_of_ble_eq_true rfl) (Nat.le_of_ble_eq_true rfl) trivial ?_
      refine gwh (set_e (c' := .inr (0, [.int (1), .ref 70, .int (1), .ref 71, .int (0)])) rfl) ?_
      refine gs rfl ?_
      refine gs rfl ?_
      refine gwl (L' := [some (.ref 32), some (.long _), none, some (.int _), some (.int (1))]) rfl ?_
      refine gs rfl ?_
      refine gs rfl ?_
      refine gs rfl ?_
      refine ifs (fun c6 => ?_) (fun c6 => ?_)
      · have d7 : (s3).toInt ≤ 1 := (le_k (by rfl) (by rfl)).mp c6
        refine gs rfl ?_
        refine gs rfl ?_
        refine gs rfl ?_
        refine gs rfl ?_
        refine and_i rfl ?_
        refine FRg rfl (fun f => ?_)
        refine gs rfl ?_
        refine gs rfl ?_
        refine gs rfl ?_
        refine gs rfl ?_
        refine gs rfl ?_
        refine gs rfl ?_
        refine and_2 rfl (vin rfl) ?_
        refine gwst (st' := .int s1 :: _) rfl ?_
        refine gs rfl ?_
        refine gs rfl ?_
        refine gs rfl ?_
        refine gs rfl ?_
        refine gs rfl ?_
        refine gs rfl ?_
        refine gs rfl ?_
        refine gs rfl ?_
        refine and_2 rfl (vin rfl) ?_
        refine gwst (st' := .int s2 :: _) rfl ?_
        refine gs rfl ?_
        refine gs rfl ?_
        refine gs rfl ?_
        refine gs rfl ?_
        refine gs rfl ?_
        refine gs rfl ?_
        refine gs rfl ?_
        refine gs rfl ?_
        refine gs rfl ?_
        refine and_2 rfl (vin rfl) ?_
        refine gwst (st' := .int s3 :: _) rfl ?_
        refine gs rfl ?_
        refine and_i (Nat.le_of_ble_eq_true rfl) (cl0 (Nat.le_of_ble_eq_true rfl) (and_i (Nat.le_of_ble_eq_true rfl) ?_))
        refine gwl (L' := [some (.ref 89), some (.long _), none, some (.int _), none]) rfl ?_
        refine gs rfl ?_
        refine gs rfl ?_
        refine gs rfl ?_
        refine gs rfl ?_
        refine and_i (Nat.le_of_ble_eq_true rfl) (cl0 (Nat.le_of_ble_eq_true rfl) (and_i (Nat.le_of_ble_eq_true rfl) ?_))
        refine gwl (L' := [some (.int _), some (.int (1)), some (.int (8))]) rfl ?_
        refine gs rfl ?_
        refine gs rfl ?_
        refine gs rfl ?_
        refine ifF ((fun q => absurd ((lt_k (a := (s3).toInt) (b := 1) (by rfl) (by rfl)).mp q) (by omega))) ?_
        refine gs rfl ?_
        refine gs rfl ?_
        refine gs rfl ?_
        refine ifF ((fun q => absurd ((lt_k (a := 8) (b := (s3).toInt) (by rfl) (by rfl)).mp q) (by omega))) ?_
        refine gs rfl ?_
        refine gs rfl ?_
        refine gs rfl ?_
        refine and_2 rfl (Or.inr rfl) ?_
        refine gs rfl ?_
        refine gs rfl ?_
        refine gs rfl ?_
        refine gs rfl ?_
        refine gs rfl ?_
        refine and_2 rfl (vin rfl) ?_
        refine gwst (st' := .int (0) :: _) rfl ?_
        refine gs rfl ?_
        obtain ⟨j8, e9, x10⟩ := nat_of (x := s3) (lo := 1) (hi := 1) (by omega) (by omega)
        obtain rfl : j8 = 1 := by omega
        have x10q : s3 = (1 : Int32) := x10
        clear x10
        subst x10q
        refine gs rfl ?_
        refine gs rfl ?_
        refine gs rfl ?_
        refine gs rfl ?_
        refine gs rfl ?_
        refine gs rfl ?_
        refine gs rfl ?_
        refine gs rfl ?_
        refine gs rfl ?_
        refine gs rfl ?_
        refine gs rfl ?_
        refine gs rfl ?_
        refine gs rfl ?_
        refine gs rfl ?_
        refine gs rfl ?_
        refine and_2 rfl (vin rfl) ?_
        refine gwst (st' := .int (0) :: _) rfl ?_
        refine gs rfl ?_
        refine gs rfl ?_
        refine gs rfl ?_
        refine gs rfl ?_
        refine gs rfl ?_
        refine gs rfl ?_
        refine gs rfl ?_
        refine gs rfl ?_
        refine gs rfl ?_
        refine gs rfl ?_
        refine and_3 (Nat.le_of_ble_eq_true rfl) rfl (vin rfl) ?_
        refine gs rfl ?_
        refine gs rfl ?_
        refine gs rfl ?_
        refine gs rfl ?_
        refine gs rfl ?_
        refine and_2 rfl (vin rfl) ?_
        refine gwst (st' := .int (0) :: _) rfl ?_
        refine gs rfl ?_
        refine gs rfl ?_
        refine gs rfl ?_
        refine and_3 (Nat.le_of_ble_eq_true rfl) rfl (vin rfl) ?_
        refine gwh (set_n0  rfl) ?_
        refine gs rfl ?_
        refine gs rfl ?_
        refine gwl (L' := [some (.ref 89), some (.long _), none, some (.int (1)), some (.int (1))]) rfl ?_
        refine gs rfl ?_
        refine gs rfl ?_
        refine gs rfl ?_
        refine gs rfl ?_
        refine gs rfl ?_
        refine gs rfl ?_
        refine gs rfl ?_
        refine and_2 rfl (vin rfl) ?_
        refine gwst (st' := .int (1) :: _) rfl ?_
        refine gs rfl ?_
        refine and_i rfl ?_
        refine gs rfl ?_
        refine gs rfl ?_
        refine gs rfl ?_
        refine gwl (L' := [some (.ref 0), some (.ref 32), some (.ref 89), some (.int (6))]) rfl ?_
        refine gs rfl ?_
        refine gs rfl ?_
        refine gs rfl ?_
        refine and_i (Or.inl rfl) ?_
        refine gwst (congrArg (fun z => Value.int z :: _) (alen_k (n := 6) (by rfl))) ?_
        refine gs rfl ?_
        refine gs rfl ?_
        refine gs rfl ?_
        refine gs rfl ?_
        refine gs rfl ?_
        refine and_2 rfl (Or.inr rfl) ?_
        exact rfl
      · have d7 : ¬ ((s3).toInt ≤ 1) := fun q => c6 ((le_k (by rfl) (by rfl)).mpr q)
        refine gs rfl ?_
        refine gs rfl ?_
        refine gs rfl ?_
        refine gs rfl ?_
        refine gs rfl ?_
        refine gs rfl ?_
        refine gs rfl ?_
        refine gs rfl ?_
        refine gs rfl ?_
        refine gs rfl ?_
        refine gs rfl ?_
        refine gs rfl ?_
        refine gs rfl ?_
        refine gs rfl ?_
        refine gs rfl ?_
        refine and_3 (Nat.le_of_ble_eq_true rfl) rfl (vin rfl) ?_
        refine gwh (set_n1 (by decide)  rfl) ?_
        refine gs rfl ?_
        refine gs rfl ?_
        refine gs rfl ?_
        refine gs rfl ?_
        refine gs rfl ?_
        refine gs rfl ?_
        refine gs rfl ?_
        refine and_3 (Nat.le_of_ble_eq_true rfl) (Nat.le_of_ble_eq_true rfl) trivial ?_
        refine gwh (set_n1 (by decide) (c' := .inr (0, [.int (1), .ref 70, .int (2), .ref 71, .int (0)])) rfl) ?_
        refine gs rfl ?_
        refine gs rfl ?_
        refine gwl (L' := [some (.ref 32), some (.long _), none, some (.int _), some (.int (2))]) rfl ?_
        refine gs rfl ?_
        refine gs rfl ?_
        refine gs rfl ?_
        refine ifs (fun c11 => ?_) (fun c11 => ?_)
        · have d12 : (s3).toInt ≤ 2 := (le_k (by rfl) (by rfl)).mp c11
          refine gs rfl ?_
          refine gs rfl ?_
          refine gs rfl ?_
          refine gs rfl ?_
          refine and_i rfl ?_
          refine FRg rfl (fun f => ?_)
          refine gs rfl ?_
          refine gs rfl ?_
          refine gs rfl ?_
          refine gs rfl ?_
          refine gs rfl ?_
          refine gs rfl ?_
          refine and_2 rfl (vin rfl) ?_
          refine gwst (st' := .int s1 :: _) rfl ?_
          refine gs rfl ?_
          refine gs rfl ?_
          refine gs rfl ?_
          refine gs rfl ?_
          refine gs rfl ?_
          refine gs rfl ?_
          refine gs rfl ?_
          refine gs rfl ?_
          refine and_2 rfl (vin rfl) ?_
          refine gwst (st' := .int s2 :: _) rfl ?_
          refine gs rfl ?_
          refine gs rfl ?_
          refine gs rfl ?_
          refine gs rfl ?_
          refine gs rfl ?_
          refine gs rfl ?_
          refine gs rfl ?_
          refine gs rfl ?_
          refine gs rfl ?_
          refine and_2 rfl (vin rfl) ?_
          refine gwst (st' := .int s3 :: _) rfl ?_
          refine gs rfl ?_
          refine and_i (Nat.le_of_ble_eq_true rfl) (cl0 (Nat.le_of_ble_eq_true rfl) (and_i (Nat.le_of_ble_eq_true rfl) ?_))
          refine gwl (L' := [some (.ref 89), some (.long _), none, some (.int _), none]) rfl ?_
          refine gs rfl ?_
          refine gs rfl ?_
          refine gs rfl ?_
          refine gs rfl ?_
          refine and_i (Nat.le_of_ble_eq_true rfl) (cl0 (Nat.le_of_ble_eq_true rfl) (and_i (Nat.le_of_ble_eq_true rfl) ?_))
          refine gwl (L' := [some (.int _), some (.int (1)), some (.int (8))]) rfl ?_
          refine gs rfl ?_
          refine gs rfl ?_
          refine gs rfl ?_
          refine ifF ((fun q => absurd ((lt_k (a := (s3).toInt) (b := 1) (by rfl) (by rfl)).mp q) (by omega))) ?_
          refine gs rfl ?_
          refine gs rfl ?_
          refine gs rfl ?_
          refine ifF ((fun q => absurd ((lt_k (a := 8) (b := (s3).toInt) (by rfl) (by rfl)).mp q) (by omega))) ?_
          refine gs rfl ?_
          refine gs rfl ?_
          refine gs rfl ?_
          refine and_2 rfl (Or.inr rfl) ?_
          refine gs rfl ?_
          refine gs rfl ?_
          refine gs rfl ?_
          refine gs rfl ?_
          refine gs rfl ?_
          refine and_2 rfl (vin rfl) ?_
          refine gwst (st' := .int (0) :: _) rfl ?_
          refine gs rfl ?_
          obtain ⟨j13, e14, x15⟩ := nat_of (x := s3) (lo := 2) (hi := 2) (by omega) (by omega)
          obtain rfl : j13 = 2 := by omega
          have x15q : s3 = (2 : Int32) := x15
          clear x15
          subst x15q
          refine gs rfl ?_
          refine gs rfl ?_
          refine gs rfl ?_
          refine gs rfl ?_
          refine gs rfl ?_
          refine gs rfl ?_
          refine gs rfl ?_
          refine gs rfl ?_
          refine gs rfl ?_
          refine gs rfl ?_
          refine gs rfl ?_
          refine gs rfl ?_
          refine gs rfl ?_
          refine gs rfl ?_
          refine gs rfl ?_
          refine and_2 rfl (vin rfl) ?_
          refine gwst (st' := .int (0) :: _) rfl ?_
          refine gs rfl ?_
          refine gs rfl ?_
          refine gs rfl ?_
          refine gs rfl ?_
          refine gs rfl ?_
          refine gs rfl ?_
          refine gs rfl ?_
          refine gs rfl ?_
          refine gs rfl ?_
          refine gs rfl ?_
          refine and_3 (Nat.le_of_ble_eq_true rfl) rfl (vin rfl) ?_
          refine gs rfl ?_
          refine gs rfl ?_
          refine gs rfl ?_
          refine gs rfl ?_
          refine gs rfl ?_
          refine and_2 rfl (vin rfl) ?_
          refine gwst (st' := .int (0) :: _) rfl ?_
          refine gs rfl ?_
          refine gs rfl ?_
          refine gs rfl ?_
          refine and_3 (Nat.le_of_ble_eq_true rfl) rfl (vin rfl) ?_
          refine gwh (set_n0  rfl) ?_
          refine gs rfl ?_
          refine gs rfl ?_
          refine gwl (L' := [some (.ref 89), some (.long _), none, some (.int (2)), some (.int (1))]) rfl ?_
          refine gs rfl ?_
          refine gs rfl ?_
          refine gs rfl ?_
          refine gs rfl ?_
          refine gs rfl ?_
          refine gs rfl ?_
          refine gs rfl ?_
          refine gs rfl ?_
          refine gs rfl ?_
          refine gs rfl ?_
          refine and_2 rfl (vin rfl) ?_
          refine gwst (st' := .int (1) :: _) rfl ?_
          refine gs rfl ?_
          refine gs rfl ?_
          refine gs rfl ?_
          refine gs rfl ?_
          refine gs rfl ?_
          refine gs rfl ?_
          refine gs rfl ?_
          refine gs rfl ?_
          refine gs rfl ?_
          refine gs rfl ?_
          refine and_3 (Nat.le_of_ble_eq_true rfl) rfl (vin rfl) ?_
          refine gwh (set_n0  rfl) ?_
          refine gs rfl ?_
          refine gs rfl ?_
          refine gs rfl ?_
          refine gs rfl ?_
          refine gs rfl ?_
          refine and_2 rfl (vin rfl) ?_
          refine gwst (st' := .int (1) :: _) rfl ?_
          refine gs rfl ?_
          refine gs rfl ?_
          refine gs rfl ?_
          refine and_3 (Nat.le_of_ble_eq_true rfl) rfl (vin rfl) ?_
          refine gwh (set_n0  rfl) ?_
          refine gs rfl ?_
          refine gs rfl ?_
          refine gwl (L' := [some (.ref 89), some (.long _), none, some (.int (2)), some (.int (2))]) rfl ?_
          refine gs rfl ?_
          refine gs rfl ?_
          refine gs rfl ?_
          refine gs rfl ?_
          refine gs rfl ?_
          refine gs rfl ?_
          refine gs rfl ?_
          refine and_2 rfl (vin rfl) ?_
          refine gwst (st' := .int (2) :: _) rfl ?_
          refine gs rfl ?_
          refine and_i rfl ?_
          refine gs rfl ?_
          refine gs rfl ?_
          refine gs rfl ?_
          refine gwl (L' := [some (.ref 0), some (.ref 32), some (.ref 89), some (.int (6))]) rfl ?_
          refine gs rfl ?_
          refine gs rfl ?_
          refine gs rfl ?_
          refine and_i (Or.inl rfl) ?_
          refine gwst (congrArg (fun z => Value.int z :: _) (alen_k (n := 6) (by rfl))) ?_
          refine gs rfl ?_
          refine gs rfl ?_
          refine gs rfl ?_
          refine gs rfl ?_
          refine gs rfl ?_
          refine and_2 rfl (Or.inr rfl) ?_
          exact rfl
        · have d12 : ¬ ((s3).toInt ≤ 2) := fun q => c11 ((le_k (by rfl) (by rfl)).mpr q)
          refine gs rfl ?_
          refine gs rfl ?_
          refine gs rfl ?_
          refine gs rfl ?_
          refine gs rfl ?_
          refine gs rfl ?_
          refine gs rfl ?_
          refine gs rfl ?_
          refine gs rfl ?_
          refine gs rfl ?_
          refine gs rfl ?_
          refine gs rfl ?_
          refine gs rfl ?_
          refine gs rfl ?_
          refine gs rfl ?_
          refine and_3 (Nat.le_of_ble_eq_true rfl) rfl (vin rfl) ?_
          refine gwh (set_n1 (by decide)  rfl) ?_
          refine gs rfl ?_
          refine gs rfl ?_
          refine gs rfl ?_
          refine gs rfl ?_
          refine gs rfl ?_
          refine gs rfl ?_
          refine gs rfl ?_
          refine and_3 (Nat.le_of_ble_eq_true rfl) (Nat.le_of_ble_eq_true rfl) trivial ?_
          refine gwh (set_n1 (by decide) (c' := .inr (0, [.int (1), .ref 70, .int (3), .ref 71, .int (0)])) rfl) ?_
          refine gs rfl ?_
          refine gs rfl ?_
          refine gwl (L' := [some (.ref 32), some (.long _), none, some (.int _), some (.int (3))]) rfl ?_
          refine gs rfl ?_
          refine gs rfl ?_
          refine gs rfl ?_
          refine ifs (fun c16 => ?_) (fun c16 => ?_)
          · have d17 : (s3).toInt ≤ 3 := (le_k (by rfl) (by rfl)).mp c16
            refine gs rfl ?_
            refine gs rfl ?_
            refine gs rfl ?_
            refine gs rfl ?_
            refine and_i rfl ?_
            refine FRg rfl (fun f => ?_)
            refine gs rfl ?_
            refine gs rfl ?_
            refine gs rfl ?_
            refine gs rfl ?_
            refine gs rfl ?_
            refine gs rfl ?_
            refine and_2 rfl (vin rfl) ?_
            refine gwst (st' := .int s1 :: _) rfl ?_
            refine gs rfl ?_
            refine gs rfl ?_
            refine gs rfl ?_
            refine gs rfl ?_
            refine gs rfl ?_
            refine gs rfl ?_
            refine gs rfl ?_
            refine gs rfl ?_
            refine and_2 rfl (vin rfl) ?_
            refine gwst (st' := .int s2 :: _) rfl ?_
            refine gs rfl ?_
            refine gs rfl ?_
            refine gs rfl ?_
            refine gs rfl ?_
            refine gs rfl ?_
            refine gs rfl ?_
            refine gs rfl ?_
            refine gs rfl ?_
            refine gs rfl ?_
            refine and_2 rfl (vin rfl) ?_
            refine gwst (st' := .int s3 :: _) rfl ?_
            refine gs rfl ?_
            refine and_i (Nat.le_of_ble_eq_true rfl) (cl0 (Nat.le_of_ble_eq_true rfl) (and_i (Nat.le_of_ble_eq_true rfl) ?_))
            refine gwl (L' := [some (.ref 89), some (.long _), none, some (.int _), none]) rfl ?_
            refine gs rfl ?_
            refine gs rfl ?_
            refine gs rfl ?_
            refine gs rfl ?_
            refine and_i (Nat.le_of_ble_eq_true rfl) (cl0 (Nat.le_of_ble_eq_true rfl) (and_i (Nat.le_of_ble_eq_true rfl) ?_))
            refine gwl (L' := [some (.int _), some (.int (1)), some (.int (8))]) rfl ?_
            refine gs rfl ?_
            refine gs rfl ?_
            refine gs rfl ?_
            refine ifF ((fun q => absurd ((lt_k (a := (s3).toInt) (b := 1) (by rfl) (by rfl)).mp q) (by omega))) ?_
            refine gs rfl ?_
            refine gs rfl ?_
            refine gs rfl ?_
            refine ifF ((fun q => absurd ((lt_k (a := 8) (b := (s3).toInt) (by rfl) (by rfl)).mp q) (by omega))) ?_
            refine gs rfl ?_
            refine gs rfl ?_
            refine gs rfl ?_
            refine and_2 rfl (Or.inr rfl) ?_
            refine gs rfl ?_
            refine gs rfl ?_
            refine gs rfl ?_
            refine gs rfl ?_
            refine gs rfl ?_
            refine and_2 rfl (vin rfl) ?_
            refine gwst (st' := .int (0) :: _) rfl ?_
            refine gs rfl ?_
            obtain ⟨j18, e19, x20⟩ := nat_of (x := s3) (lo := 3) (hi := 3) (by omega) (by omega)
            obtain rfl : j18 = 3 := by omega
            have x20q : s3 = (3 : Int32) := x20
            clear x20
            subst x20q
            refine gs rfl ?_
            refine gs rfl ?_
            refine gs rfl ?_
            refine gs rfl ?_
            refine gs rfl ?_
            refine gs rfl ?_
            refine gs rfl ?_
            refine gs rfl ?_
            refine gs rfl ?_
            refine gs rfl ?_
            refine gs rfl ?_
            refine gs rfl ?_
            refine gs rfl ?_
            refine gs rfl ?_
            refine gs rfl ?_
            refine and_2 rfl (vin rfl) ?_
            refine gwst (st' := .int (0) :: _) rfl ?_
            refine gs rfl ?_
            refine gs rfl ?_
            refine gs rfl ?_
            refine gs rfl ?_
            refine gs rfl ?_
            refine gs rfl ?_
            refine gs rfl ?_
            refine gs rfl ?_
            refine gs rfl ?_
            refine gs rfl ?_
            refine and_3 (Nat.le_of_ble_eq_true rfl) rfl (vin rfl) ?_
            refine gs rfl ?_
            refine gs rfl ?_
            refine gs rfl ?_
            refine gs rfl ?_
            refine gs rfl ?_
            refine and_2 rfl (vin rfl) ?_
            refine gwst (st' := .int (0) :: _) rfl ?_
            refine gs rfl ?_
            refine gs rfl ?_
            refine gs rfl ?_
            refine and_3 (Nat.le_of_ble_eq_true rfl) rfl (vin rfl) ?_
            refine gwh (set_n0  rfl) ?_
            refine gs rfl ?_
            refine gs rfl ?_
            refine gwl (L' := [some (.ref 89), some (.long _), none, some (.int (3)), some (.int (1))]) rfl ?_
            refine gs rfl ?_
            refine gs rfl ?_
            refine gs rfl ?_
            refine gs rfl ?_
            refine gs rfl ?_
            refine gs rfl ?_
            refine gs rfl ?_
            refine gs rfl ?_
            refine gs rfl ?_
            refine gs rfl ?_
            refine and_2 rfl (vin rfl) ?_
            refine gwst (st' := .int (1) :: _) rfl ?_
            refine gs rfl ?_
            refine gs rfl ?_
            refine gs rfl ?_
            refine gs rfl ?_
            refine gs rfl ?_
            refine gs rfl ?_
            refine gs rfl ?_
            refine gs rfl ?_
            refine gs rfl ?_
            refine gs rfl ?_
            refine and_3 (Nat.le_of_ble_eq_true rfl) rfl (vin rfl) ?_
            refine gwh (set_n0  rfl) ?_
            refine gs rfl ?_
            refine gs rfl ?_
            refine gs rfl ?_
            refine gs rfl ?_
            refine gs rfl ?_
            refine and_2 rfl (vin rfl) ?_
            refine gwst (st' := .int (1) :: _) rfl ?_
            refine gs rfl ?_
            refine gs rfl ?_
            refine gs rfl ?_
            refine and_3 (Nat.le_of_ble_eq_true rfl) rfl (vin rfl) ?_
            refine gwh (set_n0  rfl) ?_
            refine gs rfl ?_
            refine gs rfl ?_
            refine gwl (L' := [some (.ref 89), some (.long _), none, some (.int (3)), some (.int (2))]) rfl ?_
            refine gs rfl ?_
            refine gs rfl ?_
            refine gs rfl ?_
            refine gs rfl ?_
            refine gs rfl ?_
            refine gs rfl ?_
            refine gs rfl ?_
            refine gs rfl ?_
            refine gs rfl ?_
            refine gs rfl ?_
            refine and_2 rfl (vin rfl) ?_
            refine gwst (st' := .int (2) :: _) rfl ?_
            refine gs rfl ?_
            refine gs rfl ?_
            refine gs rfl ?_
            refine gs rfl ?_
            refine gs rfl ?_
            refine gs rfl ?_
            refine gs rfl ?_
            refine gs rfl ?_
            refine gs rfl ?_
            refine gs rfl ?_
            refine and_3 (Nat.le_of_ble_eq_true rfl) rfl (vin rfl) ?_
            refine gwh (set_n0  rfl) ?_
            refine gs rfl ?_
            refine gs rfl ?_
            refine gs rfl ?_
            refine gs rfl ?_
            refine gs rfl ?_
            refine and_2 rfl (vin rfl) ?_
            refine gwst (st' := .int (2) :: _) rfl ?_
            refine gs rfl ?_
            refine gs rfl ?_
            refine gs rfl ?_
            refine and_3 (Nat.le_of_ble_eq_true rfl) rfl (vin rfl) ?_
            refine gwh (set_n0  rfl) ?_
            refine gs rfl ?_
            refine gs rfl ?_
            refine gwl (L' := [some (.ref 89), some (.long _), none, some (.int (3)), some (.int (3))]) rfl ?_
            refine gs rfl ?_
            refine gs rfl ?_
            refine gs rfl ?_
            refine gs rfl ?_
            refine gs rfl ?_
            refine gs rfl ?_
            refine gs rfl ?_
            refine and_2 rfl (vin rfl) ?_
            refine gwst (st' := .int (3) :: _) rfl ?_
            refine gs rfl ?_
            refine and_i rfl ?_
            refine gs rfl ?_
            refine gs rfl ?_
            refine gs rfl ?_
            refine gwl (L' := [some (.ref 0), some (.ref 32), some (.ref 89), some (.int (6))]) rfl ?_
            refine gs rfl ?_
            refine gs rfl ?_
            refine gs rfl ?_
            refine and_i (Or.inl rfl) ?_
            refine gwst (congrArg (fun z => Value.int z :: _) (alen_k (n := 6) (by rfl))) ?_
            refine gs rfl ?_
            refine gs rfl ?_
            refine gs rfl ?_
            refine gs rfl ?_
            refine gs rfl ?_
            refine and_2 rfl (Or.inr rfl) ?_
            exact rfl
          · have d17 : ¬ ((s3).toInt ≤ 3) := fun q => c16 ((le_k (by rfl) (by rfl)).mpr q)
            refine gs rfl ?_
            refine gs rfl ?_
            refine gs rfl ?_
            refine gs rfl ?_
            refine gs rfl ?_
            refine gs rfl ?_
            refine gs rfl ?_
            refine gs rfl ?_
            refine gs rfl ?_
            refine gs rfl ?_
            refine gs rfl ?_
            refine gs rfl ?_
            refine gs rfl ?_
            refine gs rfl ?_
            refine gs rfl ?_
            refine and_3 (Nat.le_of_ble_eq_true rfl) rfl (vin rfl) ?_
            refine gwh (set_n1 (by decide)  rfl) ?_
            refine gs rfl ?_
            refine gs rfl ?_
            refine gs rfl ?_
            refine gs rfl ?_
            refine gs rfl ?_
            refine gs rfl ?_
            refine gs rfl ?_
            refine and_3 (Nat.le_of_ble_eq_true rfl) (Nat.le_of_ble_eq_true rfl) trivial ?_
            refine gwh (set_n1 (by decide) (c' := .inr (0, [.int (1), .ref 70, .int (4), .ref 71, .int (0)])) rfl) ?_
            refine gs rfl ?_
            refine gs rfl ?_
            refine gwl (L' := [some (.ref 32), some (.long _), none, some (.int _), some (.int (4))]) rfl ?_
            refine gs rfl ?_
            refine gs rfl ?_
            refine gs rfl ?_
            refine ifs (fun c21 => ?_) (fun c21 => ?_)
            · have d22 : (s3).toInt ≤ 4 := (le_k (by rfl) (by rfl)).mp c21
              refine gs rfl ?_
              refine gs rfl ?_
              refine gs rfl ?_
              refine gs rfl ?_
              refine and_i rfl ?_
              refine FRg rfl (fun f => ?_)
              refine gs rfl ?_
              refine gs rfl ?_
              refine gs rfl ?_
              refine gs rfl ?_
              refine gs rfl ?_
              refine gs rfl ?_
              refine and_2 rfl (vin rfl) ?_
              refine gwst (st' := .int s1 :: _) rfl ?_
              refine gs rfl ?_
              refine gs rfl ?_
              refine gs rfl ?_
              refine gs rfl ?_
              refine gs rfl ?_
              refine gs rfl ?_
              refine gs rfl ?_
              refine gs rfl ?_
              refine and_2 rfl (vin rfl) ?_
              refine gwst (st' := .int s2 :: _) rfl ?_
              refine gs rfl ?_
              refine gs rfl ?_
              refine gs rfl ?_
              refine gs rfl ?_
              refine gs rfl ?_
              refine gs rfl ?_
              refine gs rfl ?_
              refine gs rfl ?_
              refine gs rfl ?_
              refine and_2 rfl (vin rfl) ?_
              refine gwst (st' := .int s3 :: _) rfl ?_
              refine gs rfl ?_
              refine and_i (Nat.le_of_ble_eq_true rfl) (cl0 (Nat.le_of_ble_eq_true rfl) (and_i (Nat.le_of_ble_eq_true rfl) ?_))
              refine gwl (L' := [some (.ref 89), some (.long _), none, some (.int _), none]) rfl ?_
              refine gs rfl ?_
              refine gs rfl ?_
              refine gs rfl ?_
              refine gs rfl ?_
              refine and_i (Nat.le_of_ble_eq_true rfl) (cl0 (Nat.le_of_ble_eq_true rfl) (and_i (Nat.le_of_ble_eq_true rfl) ?_))
              refine gwl (L' := [some (.int _), some (.int (1)), some (.int (8))]) rfl ?_
              refine gs rfl ?_
              refine gs rfl ?_
              refine gs rfl ?_
              refine ifF ((fun q => absurd ((lt_k (a := (s3).toInt) (b := 1) (by rfl) (by rfl)).mp q) (by omega))) ?_
              refine gs rfl ?_
              refine gs rfl ?_
              refine gs rfl ?_
              refine ifF ((fun q => absurd ((lt_k (a := 8) (b := (s3).toInt) (by rfl) (by rfl)).mp q) (by omega))) ?_
              refine gs rfl ?_
              refine gs rfl ?_
              refine gs rfl ?_
              refine and_2 rfl (Or.inr rfl) ?_
              refine gs rfl ?_
              refine gs rfl ?_
              refine gs rfl ?_
              refine gs rfl ?_
              refine gs rfl ?_
              refine and_2 rfl (vin rfl) ?_
              refine gwst (st' := .int (0) :: _) rfl ?_
              refine gs rfl ?_
              obtain ⟨j23, e24, x25⟩ := nat_of (x := s3) (lo := 4) (hi := 4) (by omega) (by omega)
              obtain rfl : j23 = 4 := by omega
              have x25q : s3 = (4 : Int32) := x25
              clear x25
              subst x25q
              refine gs rfl ?_
              refine gs rfl ?_
              refine gs rfl ?_
              refine gs rfl ?_
              refine gs rfl ?_
              refine gs rfl ?_
              refine gs rfl ?_
              refine gs rfl ?_
              refine gs rfl ?_
              refine gs rfl ?_
              refine gs rfl ?_
              refine gs rfl ?_
              refine gs rfl ?_
              refine gs rfl ?_
              refine gs rfl ?_
              refine and_2 rfl (vin rfl) ?_
              refine gwst (st' := .int (0) :: _) rfl ?_
              refine gs rfl ?_
              refine gs rfl ?_
              refine gs rfl ?_
              refine gs rfl ?_
              refine gs rfl ?_
              refine gs rfl ?_
              refine gs rfl ?_
              refine gs rfl ?_
              refine gs rfl ?_
              refine gs rfl ?_
              refine and_3 (Nat.le_of_ble_eq_true rfl) rfl (vin rfl) ?_
              refine gs rfl ?_
              refine gs rfl ?_
              refine gs rfl ?_
              refine gs rfl ?_
              refine gs rfl ?_
              refine and_2 rfl (vin rfl) ?_
              refine gwst (st' := .int (0) :: _) rfl ?_
              refine gs rfl ?_
              refine gs rfl ?_
              refine gs rfl ?_
              refine and_3 (Nat.le_of_ble_eq_true rfl) rfl (vin rfl) ?_
              refine gwh (set_n0  rfl) ?_
              refine gs rfl ?_
              refine gs rfl ?_
              refine gwl (L' := [some (.ref 89), some (.long _), none, some (.int (4)), some (.int (1))]) rfl ?_
              refine gs rfl ?_
              refine gs rfl ?_
              refine gs rfl ?_
              refine gs rfl ?_
              refine gs rfl ?_
              refine gs rfl ?_
              refine gs rfl ?_
              refine gs rfl ?_
              refine gs rfl ?_
              refine gs rfl ?_
              refine and_2 rfl (vin rfl) ?_
              refine gwst (st' := .int (1) :: _) rfl ?_
              refine gs rfl ?_
              refine gs rfl ?_
              refine gs rfl ?_
              refine gs rfl ?_
              refine gs rfl ?_
              refine gs rfl ?_
              refine gs rfl ?_
              refine gs rfl ?_
              refine gs rfl ?_
              refine gs rfl ?_
              refine and_3 (Nat.le_of_ble_eq_true rfl) rfl (vin rfl) ?_
              refine gwh (set_n0  rfl) ?_
              refine gs rfl ?_
              refine gs rfl ?_
              refine gs rfl ?_
              refine gs rfl ?_
              refine gs rfl ?_
              refine and_2 rfl (vin rfl) ?_
              refine gwst (st' := .int (1) :: _) rfl ?_
              refine gs rfl ?_
              refine gs rfl ?_
              refine gs rfl ?_
              refine and_3 (Nat.le_of_ble_eq_true rfl) rfl (vin rfl) ?_
              refine gwh (set_n0  rfl) ?_
              refine gs rfl ?_
              refine gs rfl ?_
              refine gwl (L' := [some (.ref 89), some (.long _), none, some (.int (4)), some (.int (2))]) rfl ?_
              refine gs rfl ?_
              refine gs rfl ?_
              refine gs rfl ?_
              refine gs rfl ?_
              refine gs rfl ?_
              refine gs rfl ?_
              refine gs rfl ?_
              refine gs rfl ?_
              refine gs rfl ?_
              refine gs rfl ?_
              refine and_2 rfl (vin rfl) ?_
              refine gwst (st' := .int (2) :: _) rfl ?_
              refine gs rfl ?_
              refine gs rfl ?_
              refine gs rfl ?_
              refine gs rfl ?_
              refine gs rfl ?_
              refine gs rfl ?_
              refine gs rfl ?_
              refine gs rfl ?_
              refine gs rfl ?_
              refine gs rfl ?_
              refine and_3 (Nat.le_of_ble_eq_true rfl) rfl (vin rfl) ?_
              refine gwh (set_n0  rfl) ?_
              refine gs rfl ?_
              refine gs rfl ?_
              refine gs rfl ?_
              refine gs rfl ?_
              refine gs rfl ?_
              refine and_2 rfl (vin rfl) ?_
              refine gwst (st' := .int (2) :: _) rfl ?_
              refine gs rfl ?_
              refine gs rfl ?_
              refine gs rfl ?_
              refine and_3 (Nat.le_of_ble_eq_true rfl) rfl (vin rfl) ?_
              refine gwh (set_n0  rfl) ?_
              refine gs rfl ?_
              refine gs rfl ?_
              refine gwl (L' := [some (.ref 89), some (.long _), none, some (.int (4)), some (.int (3))]) rfl ?_
              refine gs rfl ?_
              refine gs rfl ?_
              refine gs rfl ?_
              refine gs rfl ?_
              refine gs rfl ?_
              refine gs rfl ?_
              refine gs rfl ?_
              refine gs rfl ?_
              refine gs rfl ?_
              refine gs rfl ?_
              refine and_2 rfl (vin rfl) ?_
              refine gwst (st' := .int (3) :: _) rfl ?_
              refine gs rfl ?_
              refine gs rfl ?_
              refine gs rfl ?_
              refine gs rfl ?_
              refine gs rfl ?_
              refine gs rfl ?_
              refine gs rfl ?_
              refine gs rfl ?_
              refine gs rfl ?_
              refine gs rfl ?_
              refine and_3 (Nat.le_of_ble_eq_true rfl) rfl (vin rfl) ?_
              refine gwh (set_n0  rfl) ?_
              refine gs rfl ?_
              refine gs rfl ?_
              refine gs rfl ?_
              refine gs rfl ?_
              refine gs rfl ?_
              refine and_2 rfl (vin rfl) ?_
              refine gwst (st' := .int (3) :: _) rfl ?_
              refine gs rfl ?_
              refine gs rfl ?_
              refine gs rfl ?_
              refine and_3 (Nat.le_of_ble_eq_true rfl) rfl (vin rfl) ?_
              refine gwh (set_n0  rfl) ?_
              refine gs rfl ?_
              refine gs rfl ?_
              refine gwl (L' := [some (.ref 89), some (.long _), none, some (.int (4)), some (.int (4))]) rfl ?_
              refine gs rfl ?_
              refine gs rfl ?_
              refine gs rfl ?_
              refine gs rfl ?_
              refine gs rfl ?_
              refine gs rfl ?_
              refine gs rfl ?_
              refine and_2 rfl (vin rfl) ?_
              refine gwst (st' := .int (4) :: _) rfl ?_
              refine gs rfl ?_
              refine and_i rfl ?_
              refine gs rfl ?_
              refine gs rfl ?_
              refine gs rfl ?_
              refine gwl (L' := [some (.ref 0), some (.ref 32), some (.ref 89), some (.int (6))]) rfl ?_
              refine gs rfl ?_
              refine gs rfl ?_
              refine gs rfl ?_
              refine and_i (Or.inl rfl) ?_
              refine gwst (congrArg (fun z => Value.int z :: _) (alen_k (n := 6) (by rfl))) ?_
              refine gs rfl ?_
              refine gs rfl ?_
              refine gs rfl ?_
              refine gs rfl ?_
              refine gs rfl ?_
              refine and_2 rfl (Or.inr rfl) ?_
              exact rfl
            · have d22 : ¬ ((s3).toInt ≤ 4) := fun q => c21 ((le_k (by rfl) (by rfl)).mpr q)
              refine gs rfl ?_
              refine gs rfl ?_
              refine gs rfl ?_
              refine gs rfl ?_
              refine gs rfl ?_
              refine gs rfl ?_
              refine gs rfl ?_
              refine gs rfl ?_
              refine gs rfl ?_
              refine gs rfl ?_
              refine gs rfl ?_
              refine gs rfl ?_
              refine gs rfl ?_
              refine gs rfl ?_
              refine gs rfl ?_
              refine and_3 (Nat.le_of_ble_eq_true rfl) rfl (vin rfl) ?_
              refine gwh (set_n1 (by decide)  rfl) ?_
              refine gs rfl ?_
              refine gs rfl ?_
              refine gs rfl ?_
              refine gs rfl ?_
              refine gs rfl ?_
              refine gs rfl ?_
              refine gs rfl ?_
              refine and_3 (Nat.le_of_ble_eq_true rfl) (Nat.le_of_ble_eq_true rfl) trivial ?_
              refine gwh (set_n1 (by decide) (c' := .inr (0, [.int (1), .ref 70, .int (5), .ref 71, .int (0)])) rfl) ?_
              refine gs rfl ?_
              refine gs rfl ?_
              refine gwl (L' := [some (.ref 32), some (.long _), none, some (.int _), some (.int (5))]) rfl ?_
              refine gs rfl ?_
              refine gs rfl ?_
              refine gs rfl ?_
              refine ifs (fun c26 => ?_) (fun c26 => ?_)
              · have d27 : (s3).toInt ≤ 5 := (le_k (by rfl) (by rfl)).mp c26
                refine gs rfl ?_
                refine gs rfl ?_
                refine gs rfl ?_
                refine gs rfl ?_
                refine and_i rfl ?_
                refine FRg rfl (fun f => ?_)
                refine gs rfl ?_
                refine gs rfl ?_
                refine gs rfl ?_
                refine gs rfl ?_
                refine gs rfl ?_
                refine gs rfl ?_
                refine and_2 rfl (vin rfl) ?_
                refine gwst (st' := .int s1 :: _) rfl ?_
                refine gs rfl ?_
                refine gs rfl ?_
                refine gs rfl ?_
                refine gs rfl ?_
                refine gs rfl ?_
                refine gs rfl ?_
                refine gs rfl ?_
                refine gs rfl ?_
                refine and_2 rfl (vin rfl) ?_
                refine gwst (st' := .int s2 :: _) rfl ?_
                refine gs rfl ?_
                refine gs rfl ?_
                refine gs rfl ?_
                refine gs rfl ?_
                refine gs rfl ?_
                refine gs rfl ?_
                refine gs rfl ?_
                refine gs rfl ?_
                refine gs rfl ?_
                refine and_2 rfl (vin rfl) ?_
                refine gwst (st' := .int s3 :: _) rfl ?_
                refine gs rfl ?_
                refine and_i (Nat.le_of_ble_eq_true rfl) (cl0 (Nat.le_of_ble_eq_true rfl) (and_i (Nat.le_of_ble_eq_true rfl) ?_))
                refine gwl (L' := [some (.ref 89), some (.long _), none, some (.int _), none]) rfl ?_
                refine gs rfl ?_
                refine gs rfl ?_
                refine gs rfl ?_
                refine gs rfl ?_
                refine and_i (Nat.le_of_ble_eq_true rfl) (cl0 (Nat.le_of_ble_eq_true rfl) (and_i (Nat.le_of_ble_eq_true rfl) ?_))
                refine gwl (L' := [some (.int _), some (.int (1)), some (.int (8))]) rfl ?_
                refine gs rfl ?_
                refine gs rfl ?_
                refine gs rfl ?_
                refine ifF ((fun q => absurd ((lt_k (a := (s3).toInt) (b := 1) (by rfl) (by rfl)).mp q) (by omega))) ?_
                refine gs rfl ?_
                refine gs rfl ?_
                refine gs rfl ?_
                refine ifF ((fun q => absurd ((lt_k (a := 8) (b := (s3).toInt) (by rfl) (by rfl)).mp q) (by omega))) ?_
                refine gs rfl ?_
                refine gs rfl ?_
                refine gs rfl ?_
                refine and_2 rfl (Or.inr rfl) ?_
                refine gs rfl ?_
                refine gs rfl ?_
                refine gs rfl ?_
                refine gs rfl ?_
                refine gs rfl ?_
                refine and_2 rfl (vin rfl) ?_
                refine gwst (st' := .int (0) :: _) rfl ?_
                refine gs rfl ?_
                obtain ⟨j28, e29, x30⟩ := nat_of (x := s3) (lo := 5) (hi := 5) (by omega) (by omega)
                obtain rfl : j28 = 5 := by omega
                have x30q : s3 = (5 : Int32) := x30
                clear x30
                subst x30q
                refine gs rfl ?_
                refine gs rfl ?_
                refine gs rfl ?_
                refine gs rfl ?_
                refine gs rfl ?_
                refine gs rfl ?_
                refine gs rfl ?_
                refine gs rfl ?_
                refine gs rfl ?_
                refine gs rfl ?_
                refine gs rfl ?_
                refine gs rfl ?_
                refine gs rfl ?_
                refine gs rfl ?_
                refine gs rfl ?_
                refine and_2 rfl (vin rfl) ?_
                refine gwst (st' := .int (0) :: _) rfl ?_
                refine gs rfl ?_
                refine gs rfl ?_
                refine gs rfl ?_
                refine gs rfl ?_
                refine gs rfl ?_
                refine gs rfl ?_
                refine gs rfl ?_
                refine gs rfl ?_
                refine gs rfl ?_
                refine gs rfl ?_
                refine and_3 (Nat.le_of_ble_eq_true rfl) rfl (vin rfl) ?_
                refine gs rfl ?_
                refine gs rfl ?_
                refine gs rfl ?_
                refine gs rfl ?_
                refine gs rfl ?_
                refine and_2 rfl (vin rfl) ?_
                refine gwst (st' := .int (0) :: _) rfl ?_
                refine gs rfl ?_
                refine gs rfl ?_
                refine gs rfl ?_
                refine and_3 (Nat.le_of_ble_eq_true rfl) rfl (vin rfl) ?_
                refine gwh (set_n0  rfl) ?_
                refine gs rfl ?_
                refine gs rfl ?_
                refine gwl (L' := [some (.ref 89), some (.long _), none, some (.int (5)), some (.int (1))]) rfl ?_
                refine gs rfl ?_
                refine gs rfl ?_
                refine gs rfl ?_
                refine gs rfl ?_
                refine gs rfl ?_
                refine gs rfl ?_
                refine gs rfl ?_
                refine gs rfl ?_
                refine gs rfl ?_
                refine gs rfl ?_
                refine and_2 rfl (vin rfl) ?_
                refine gwst (st' := .int (1) :: _) rfl ?_
                refine gs rfl ?_
                refine gs rfl ?_
                refine gs rfl ?_
                refine gs rfl ?_
                refine gs rfl ?_
                refine gs rfl ?_
                refine gs rfl ?_
                refine gs rfl ?_
                refine gs rfl ?_
                refine gs rfl ?_
                refine and_3 (Nat.le_of_ble_eq_true rfl) rfl (vin rfl) ?_
                refine gwh (set_n0  rfl) ?_
                refine gs rfl ?_
                refine gs rfl ?_
                refine gs rfl ?_
                refine gs rfl ?_
                refine gs rfl ?_
                refine and_2 rfl (vin rfl) ?_
                refine gwst (st' := .int (1) :: _) rfl ?_
                refine gs rfl ?_
                refine gs rfl ?_
                refine gs rfl ?_
                refine and_3 (Nat.le_of_ble_eq_true rfl) rfl (vin rfl) ?_
                refine gwh (set_n0  rfl) ?_
                refine gs rfl ?_
                refine gs rfl ?_
                refine gwl (L' := [some (.ref 89), some (.long _), none, some (.int (5)), some (.int (2))]) rfl ?_
                refine gs rfl ?_
                refine gs rfl ?_
                refine gs rfl ?_
                refine gs rfl ?_
                refine gs rfl ?_
                refine gs rfl ?_
                refine gs rfl ?_
                refine gs rfl ?_
                refine gs rfl ?_
                refine gs rfl ?_
                refine and_2 rfl (vin rfl) ?_
                refine gwst (st' := .int (2) :: _) rfl ?_
                refine gs rfl ?_
                refine gs rfl ?_
                refine gs rfl ?_
                refine gs rfl ?_
                refine gs rfl ?_
                refine gs rfl ?_
                refine gs rfl ?_
                refine gs rfl ?_
                refine gs rfl ?_
                refine gs rfl ?_
                refine and_3 (Nat.le_of_ble_eq_true rfl) rfl (vin rfl) ?_
                refine gwh (set_n0  rfl) ?_
                refine gs rfl ?_
                refine gs rfl ?_
                refine gs rfl ?_
                refine gs rfl ?_
                refine gs rfl ?_
                refine and_2 rfl (vin rfl) ?_
                refine gwst (st' := .int (2) :: _) rfl ?_
                refine gs rfl ?_
                refine gs rfl ?_
                refine gs rfl ?_
                refine and_3 (Nat.le_of_ble_eq_true rfl) rfl (vin rfl) ?_
                refine gwh (set_n0  rfl) ?_
                refine gs rfl ?_
                refine gs rfl ?_
                refine gwl (L' := [some (.ref 89), some (.long _), none, some (.int (5)), some (.int (3))]) rfl ?_
                refine gs rfl ?_
                refine gs rfl ?_
                refine gs rfl ?_
                refine gs rfl ?_
                refine gs rfl ?_
                refine gs rfl ?_
                refine gs rfl ?_
                refine gs rfl ?_
                refine gs rfl ?_
                refine gs rfl ?_
                refine and_2 rfl (vin rfl) ?_
                refine gwst (st' := .int (3) :: _) rfl ?_
                refine gs rfl ?_
                refine gs rfl ?_
                refine gs rfl ?_
                refine gs rfl ?_
                refine gs rfl ?_
                refine gs rfl ?_
                refine gs rfl ?_
                refine gs rfl ?_
                refine gs rfl ?_
                refine gs rfl ?_
                refine and_3 (Nat.le_of_ble_eq_true rfl) rfl (vin rfl) ?_
                refine gwh (set_n0  rfl) ?_
                refine gs rfl ?_
                refine gs rfl ?_
                refine gs rfl ?_
                refine gs rfl ?_
                refine gs rfl ?_
                refine and_2 rfl (vin rfl) ?_
                refine gwst (st' := .int (3) :: _) rfl ?_
                refine gs rfl ?_
                refine gs rfl ?_
                refine gs rfl ?_
                refine and_3 (Nat.le_of_ble_eq_true rfl) rfl (vin rfl) ?_
                refine gwh (set_n0  rfl) ?_
                refine gs rfl ?_
                refine gs rfl ?_
                refine gwl (L' := [some (.ref 89), some (.long _), none, some (.int (5)), some (.int (4))]) rfl ?_
                refine gs rfl ?_
                refine gs rfl ?_
                refine gs rfl ?_
                refine gs rfl ?_
                refine gs rfl ?_
                refine gs rfl ?_
                refine gs rfl ?_
                refine gs rfl ?_
                refine gs rfl ?_
                refine gs rfl ?_
                refine and_2 rfl (vin rfl) ?_
                refine gwst (st' := .int (4) :: _) rfl ?_
                refine gs rfl ?_
                refine gs rfl ?_
                refine gs rfl ?_
                refine gs rfl ?_
                refine gs rfl ?_
                refine gs rfl ?_
                refine gs rfl ?_
                refine gs rfl ?_
                refine gs rfl ?_
                refine gs rfl ?_
                refine and_3 (Nat.le_of_ble_eq_true rfl) rfl (vin rfl) ?_
                refine gwh (set_n0  rfl) ?_
                refine gs rfl ?_
                refine gs rfl ?_
                refine gs rfl ?_
                refine gs rfl ?_
                refine gs rfl ?_
                refine and_2 rfl (vin rfl) ?_
                refine gwst (st' := .int (4) :: _) rfl ?_
                refine gs rfl ?_
                refine gs rfl ?_
                refine gs rfl ?_
                refine and_3 (Nat.le_of_ble_eq_true rfl) rfl (vin rfl) ?_
                refine gwh (set_n0  rfl) ?_
                refine gs rfl ?_
                refine gs rfl ?_
                refine gwl (L' := [some (.ref 89), some (.long _), none, some (.int (5)), some (.int (5))]) rfl ?_
                refine gs rfl ?_
                refine gs rfl ?_
                refine gs rfl ?_
                refine gs rfl ?_
                refine gs rfl ?_
                refine gs rfl ?_
                refine gs rfl ?_
                refine and_2 rfl (vin rfl) ?_
                refine gwst (st' := .int (5) :: _) rfl ?_
                refine gs rfl ?_
                refine and_i rfl ?_
                refine gs rfl ?_
                refine gs rfl ?_
                refine gs rfl ?_
                refine gwl (L' := [some (.ref 0), some (.ref 32), some (.ref 89), some (.int (6))]) rfl ?_
                refine gs rfl ?_
                refine gs rfl ?_
                refine gs rfl ?_
                refine and_i (Or.inl rfl) ?_
                refine gwst (congrArg (fun z => Value.int z :: _) (alen_k (n := 6) (by rfl))) ?_
                refine gs rfl ?_
                refine gs rfl ?_
                refine gs rfl ?_
                refine gs rfl ?_
                refine gs rfl ?_
                refine and_2 rfl (Or.inr rfl) ?_
                exact rfl
              · have d27 : ¬ ((s3).toInt ≤ 5) := fun q => c26 ((le_k (by rfl) (by rfl)).mpr q)
                refine gs rfl ?_
                refine gs rfl ?_
                refine gs rfl ?_
                refine gs rfl ?_
                refine gs rfl ?_
                refine gs rfl ?_
                refine gs rfl ?_
                refine gs rfl ?_
                refine gs rfl ?_
                refine gs rfl ?_
                refine gs rfl ?_
                refine gs rfl ?_
                refine gs rfl ?_
                refine gs rfl ?_
                refine gs rfl ?_
                refine and_3 (Nat.le_of_ble_eq_true rfl) rfl (vin rfl) ?_
                refine gwh (set_n1 (by decide)  rfl) ?_
                refine gs rfl ?_
                refine gs rfl ?_
                refine gs rfl ?_
                refine gs rfl ?_
                refine gs rfl ?_
                refine gs rfl ?_
                refine gs rfl ?_
                refine and_3 (Nat.le_of_ble_eq_true rfl) (Nat.le_of_ble_eq_true rfl) trivial ?_
                refine gwh (set_n1 (by decide) (c' := .inr (0, [.int (1), .ref 70, .int (6), .ref 71, .int (0)])) rfl) ?_
                refine gs rfl ?_
                refine gs rfl ?_
                refine gwl (L' := [some (.ref 32), some (.long _), none, some (.int _), some (.int (6))]) rfl ?_
                refine gs rfl ?_
                refine gs rfl ?_
                refine gs rfl ?_
                refine ifs (fun c31 => ?_) (fun c31 => ?_)
                · have d32 : (s3).toInt ≤ 6 := (le_k (by rfl) (by rfl)).mp c31
                  refine gs rfl ?_
                  refine gs rfl ?_
                  refine gs rfl ?_
                  refine gs rfl ?_
                  refine and_i rfl ?_
                  refine FRg rfl (fun f => ?_)
                  refine gs rfl ?_
                  refine gs rfl ?_
                  refine gs rfl ?_
                  refine gs rfl ?_
                  refine gs rfl ?_
                  refine gs rfl ?_
                  refine and_2 rfl (vin rfl) ?_
                  refine gwst (st' := .int s1 :: _) rfl ?_
                  refine gs rfl ?_
                  refine gs rfl ?_
                  refine gs rfl ?_
                  refine gs rfl ?_
                  refine gs rfl ?_
                  refine gs rfl ?_
                  refine gs rfl ?_
                  refine gs rfl ?_
                  refine and_2 rfl (vin rfl) ?_
                  refine gwst (st' := .int s2 :: _) rfl ?_
                  refine gs rfl ?_
                  refine gs rfl ?_
                  refine gs rfl ?_
                  refine gs rfl ?_
                  refine gs rfl ?_
                  refine gs rfl ?_
                  refine gs rfl ?_
                  refine gs rfl ?_
                  refine gs rfl ?_
                  refine and_2 rfl (vin rfl) ?_
                  refine gwst (st' := .int s3 :: _) rfl ?_
                  refine gs rfl ?_
                  refine and_i (Nat.le_of_ble_eq_true rfl) (cl0 (Nat.le_of_ble_eq_true rfl) (and_i (Nat.le_of_ble_eq_true rfl) ?_))
                  refine gwl (L' := [some (.ref 89), some (.long _), none, some (.int _), none]) rfl ?_
                  refine gs rfl ?_
                  refine gs rfl ?_
                  refine gs rfl ?_
                  refine gs rfl ?_
                  refine and_i (Nat.le_of_ble_eq_true rfl) (cl0 (Nat.le_of_ble_eq_true rfl) (and_i (Nat.le_of_ble_eq_true rfl) ?_))
                  refine gwl (L' := [some (.int _), some (.int (1)), some (.int (8))]) rfl ?_
                  refine gs rfl ?_
                  refine gs rfl ?_
                  refine gs rfl ?_
                  refine ifF ((fun q => absurd ((lt_k (a := (s3).toInt) (b := 1) (by rfl) (by rfl)).mp q) (by omega))) ?_
                  refine gs rfl ?_
                  refine gs rfl ?_
                  refine gs rfl ?_
                  refine ifF ((fun q => absurd ((lt_k (a := 8) (b := (s3).toInt) (by rfl) (by rfl)).mp q) (by omega))) ?_
                  refine gs rfl ?_
                  refine gs rfl ?_
                  refine gs rfl ?_
                  refine and_2 rfl (Or.inr rfl) ?_
                  refine gs rfl ?_
                  refine gs rfl ?_
                  refine gs rfl ?_
                  refine gs rfl ?_
                  refine gs rfl ?_
                  refine and_2 rfl (vin rfl) ?_
                  refine gwst (st' := .int (0) :: _) rfl ?_
                  refine gs rfl ?_
                  obtain ⟨j33, e34, x35⟩ := nat_of (x := s3) (lo := 6) (hi := 6) (by omega) (by omega)
                  obtain rfl : j33 = 6 := by omega
                  have x35q : s3 = (6 : Int32) := x35
                  clear x35
                  subst x35q
                  refine gs rfl ?_
                  refine gs rfl ?_
                  refine gs rfl ?_
                  refine gs rfl ?_
                  refine gs rfl ?_
                  refine gs rfl ?_
                  refine gs rfl ?_
                  refine gs rfl ?_
                  refine gs rfl ?_
                  refine gs rfl ?_
                  refine gs rfl ?_
                  refine gs rfl ?_
                  refine gs rfl ?_
                  refine gs rfl ?_
                  refine gs rfl ?_
                  refine and_2 rfl (vin rfl) ?_
                  refine gwst (st' := .int (0) :: _) rfl ?_
                  refine gs rfl ?_
                  refine gs rfl ?_
                  refine gs rfl ?_
                  refine gs rfl ?_
                  refine gs rfl ?_
                  refine gs rfl ?_
                  refine gs rfl ?_
                  refine gs rfl ?_
                  refine gs rfl ?_
                  refine gs rfl ?_
                  refine and_3 (Nat.le_of_ble_eq_true rfl) rfl (vin rfl) ?_
                  refine gs rfl ?_
                  refine gs rfl ?_
                  refine gs rfl ?_
                  refine gs rfl ?_
                  refine gs rfl ?_
                  refine and_2 rfl (vin rfl) ?_
                  refine gwst (st' := .int (0) :: _) rfl ?_
                  refine gs rfl ?_
                  refine gs rfl ?_
                  refine gs rfl ?_
                  refine and_3 (Nat.le_of_ble_eq_true rfl) rfl (vin rfl) ?_
                  refine gwh (set_n0  rfl) ?_
                  refine gs rfl ?_
                  refine gs rfl ?_
                  refine gwl (L' := [some (.ref 89), some (.long _), none, some (.int (6)), some (.int (1))]) rfl ?_
                  refine gs rfl ?_
                  refine gs rfl ?_
                  refine gs rfl ?_
                  refine gs rfl ?_
                  refine gs rfl ?_
                  refine gs rfl ?_
                  refine gs rfl ?_
                  refine gs rfl ?_
                  refine gs rfl ?_
                  refine gs rfl ?_
                  refine and_2 rfl (vin rfl) ?_
                  refine gwst (st' := .int (1) :: _) rfl ?_
                  refine gs rfl ?_
                  refine gs rfl ?_
                  refine gs rfl ?_
                  refine gs rfl ?_
                  refine gs rfl ?_
                  refine gs rfl ?_
                  refine gs rfl ?_
                  refine gs rfl ?_
                  refine gs rfl ?_
                  refine gs rfl ?_
                  refine and_3 (Nat.le_of_ble_eq_true rfl) rfl (vin rfl) ?_
                  refine gwh (set_n0  rfl) ?_
                  refine gs rfl ?_
                  refine gs rfl ?_
                  refine gs rfl ?_
                  refine gs rfl ?_
                  refine gs rfl ?_
                  refine and_2 rfl (vin rfl) ?_
                  refine gwst (st' := .int (1) :: _) rfl ?_
                  refine gs rfl ?_
                  refine gs rfl ?_
                  refine gs rfl ?_
                  refine and_3 (Nat.le_of_ble_eq_true rfl) rfl (vin rfl) ?_
                  refine gwh (set_n0  rfl) ?_
                  refine gs rfl ?_
                  refine gs rfl ?_
                  refine gwl (L' := [some (.ref 89), some (.long _), none, some (.int (6)), some (.int (2))]) rfl ?_
                  refine gs rfl ?_
                  refine gs rfl ?_
                  refine gs rfl ?_
                  refine gs rfl ?_
                  refine gs rfl ?_
                  refine gs rfl ?_
                  refine gs rfl ?_
                  refine gs rfl ?_
                  refine gs rfl ?_
                  refine gs rfl ?_
                  refine and_2 rfl (vin rfl) ?_
                  refine gwst (st' := .int (2) :: _) rfl ?_
                  refine gs rfl ?_
                  refine gs rfl ?_
                  refine gs rfl ?_
                  refine gs rfl ?_
                  refine gs rfl ?_
                  refine gs rfl ?_
                  refine gs rfl ?_
                  refine gs rfl ?_
                  refine gs rfl ?_
                  refine gs rfl ?_
                  refine and_3 (Nat.le_of_ble_eq_true rfl) rfl (vin rfl) ?_
                  refine gwh (set_n0  rfl) ?_
                  refine gs rfl ?_
                  refine gs rfl ?_
                  refine gs rfl ?_
                  refine gs rfl ?_
                  refine gs rfl ?_
                  refine and_2 rfl (vin rfl) ?_
                  refine gwst (st' := .int (2) :: _) rfl ?_
                  refine gs rfl ?_
                  refine gs rfl ?_
                  refine gs rfl ?_
                  refine and_3 (Nat.le_of_ble_eq_true rfl) rfl (vin rfl) ?_
                  refine gwh (set_n0  rfl) ?_
                  refine gs rfl ?_
                  refine gs rfl ?_
                  refine gwl (L' := [some (.ref 89), some (.long _), none, some (.int (6)), some (.int (3))]) rfl ?_
                  refine gs rfl ?_
                  refine gs rfl ?_
                  refine gs rfl ?_
                  refine gs rfl ?_
                  refine gs rfl ?_
                  refine gs rfl ?_
                  refine gs rfl ?_
                  refine gs rfl ?_
                  refine gs rfl ?_
                  refine gs rfl ?_
                  refine and_2 rfl (vin rfl) ?_
                  refine gwst (st' := .int (3) :: _) rfl ?_
                  refine gs rfl ?_
                  refine gs rfl ?_
                  refine gs rfl ?_
                  refine gs rfl ?_
                  refine gs rfl ?_
                  refine gs rfl ?_
                  refine gs rfl ?_
                  refine gs rfl ?_
                  refine gs rfl ?_
                  refine gs rfl ?_
                  refine and_3 (Nat.le_of_ble_eq_true rfl) rfl (vin rfl) ?_
                  refine gwh (set_n0  rfl) ?_
                  refine gs rfl ?_
                  refine gs rfl ?_
                  refine gs rfl ?_
                  refine gs rfl ?_
                  refine gs rfl ?_
                  refine and_2 rfl (vin rfl) ?_
                  refine gwst (st' := .int (3) :: _) rfl ?_
                  refine gs rfl ?_
                  refine gs rfl ?_
                  refine gs rfl ?_
                  refine and_3 (Nat.le_of_ble_eq_true rfl) rfl (vin rfl) ?_
                  refine gwh (set_n0  rfl) ?_
                  refine gs rfl ?_
                  refine gs rfl ?_
                  refine gwl (L' := [some (.ref 89), some (.long _), none, some (.int (6)), some (.int (4))]) rfl ?_
                  refine gs rfl ?_
                  refine gs rfl ?_
                  refine gs rfl ?_
                  refine gs rfl ?_
                  refine gs rfl ?_
                  refine gs rfl ?_
                  refine gs rfl ?_
                  refine gs rfl ?_
                  refine gs rfl ?_
                  refine gs rfl ?_
                  refine and_2 rfl (vin rfl) ?_
                  refine gwst (st' := .int (4) :: _) rfl ?_
                  refine gs rfl ?_
                  refine gs rfl ?_
                  refine gs rfl ?_
                  refine gs rfl ?_
                  refine gs rfl ?_
                  refine gs rfl ?_
                  refine gs rfl ?_
                  refine gs rfl ?_
                  refine gs rfl ?_
                  refine gs rfl ?_
                  refine and_3 (Nat.le_of_ble_eq_true rfl) rfl (vin rfl) ?_
                  refine gwh (set_n0  rfl) ?_
                  refine gs rfl ?_
                  refine gs rfl ?_
                  refine gs rfl ?_
                  refine gs rfl ?_
                  refine gs rfl ?_
                  refine and_2 rfl (vin rfl) ?_
                  refine gwst (st' := .int (4) :: _) rfl ?_
                  refine gs rfl ?_
                  refine gs rfl ?_
                  refine gs rfl ?_
                  refine and_3 (Nat.le_of_ble_eq_true rfl) rfl (vin rfl) ?_
                  refine gwh (set_n0  rfl) ?_
                  refine gs rfl ?_
                  refine gs rfl ?_
                  refine gwl (L' := [some (.ref 89), some (.long _), none, some (.int (6)), some (.int (5))]) rfl ?_
                  refine gs rfl ?_
                  refine gs rfl ?_
                  refine gs rfl ?_
                  refine gs rfl ?_
                  refine gs rfl ?_
                  refine gs rfl ?_
                  refine gs rfl ?_
                  refine gs rfl ?_
                  refine gs rfl ?_
                  refine gs rfl ?_
                  refine and_2 rfl (vin rfl) ?_
                  refine gwst (st' := .int (5) :: _) rfl ?_
                  refine gs rfl ?_
                  refine gs rfl ?_
                  refine gs rfl ?_
                  refine gs rfl ?_
                  refine gs rfl ?_
                  refine gs rfl ?_
                  refine gs rfl ?_
                  refine gs rfl ?_
                  refine gs rfl ?_
                  refine gs rfl ?_
                  refine and_3 (Nat.le_of_ble_eq_true rfl) rfl (vin rfl) ?_
                  refine gwh (set_n0  rfl) ?_
                  refine gs rfl ?_
                  refine gs rfl ?_
                  refine gs rfl ?_
                  refine gs rfl ?_
                  refine gs rfl ?_
                  refine and_2 rfl (vin rfl) ?_
                  refine gwst (st' := .int (5) :: _) rfl ?_
                  refine gs rfl ?_
                  refine gs rfl ?_
                  refine gs rfl ?_
                  refine and_3 (Nat.le_of_ble_eq_true rfl) rfl (vin rfl) ?_
                  refine gwh (set_n0  rfl) ?_
                  refine gs rfl ?_
                  refine gs rfl ?_
                  refine gwl (L' := [some (.ref 89), some (.long _), none, some (.int (6)), some (.int (6))]) rfl ?_
                  refine gs rfl ?_
                  refine gs rfl ?_
                  refine gs rfl ?_
                  refine gs rfl ?_
                  refine gs rfl ?_
                  refine gs rfl ?_
                  refine gs rfl ?_
                  refine and_2 rfl (vin rfl) ?_
                  refine gwst (st' := .int (6) :: _) rfl ?_
                  refine gs rfl ?_
                  refine and_i rfl ?_
                  refine gs rfl ?_
                  refine gs rfl ?_
                  refine gs rfl ?_
                  refine gwl (L' := [some (.ref 0), some (.ref 32), some (.ref 89), some (.int (6))]) rfl ?_
                  refine gs rfl ?_
                  refine gs rfl ?_
                  refine gs rfl ?_
                  refine and_i (Or.inl rfl) ?_
                  refine gwst (congrArg (fun z => Value.int z :: _) (alen_k (n := 6) (by rfl))) ?_
                  refine gs rfl ?_
                  refine gs rfl ?_
                  refine gs rfl ?_
                  refine gs rfl ?_
                  refine gs rfl ?_
                  refine and_2 rfl (Or.inr rfl) ?_
                  exact rfl
                · have d32 : ¬ ((s3).toInt ≤ 6) := fun q => c31 ((le_k (by rfl) (by rfl)).mpr q)
                  refine gs rfl ?_
                  refine gs rfl ?_
                  refine gs rfl ?_
                  refine gs rfl ?_
                  refine gs rfl ?_
                  refine gs rfl ?_
                  refine gs rfl ?_
                  refine gs rfl ?_
                  refine gs rfl ?_
                  refine gs rfl ?_
                  refine gs rfl ?_
                  refine gs rfl ?_
                  refine gs rfl ?_
                  refine gs rfl ?_
                  refine gs rfl ?_
                  refine and_3 (Nat.le_of_ble_eq_true rfl) rfl (vin rfl) ?_
                  refine gwh (set_n1 (by decide)  rfl) ?_
                  refine gs rfl ?_
                  refine gs rfl ?_
                  refine gs rfl ?_
                  refine gs rfl ?_
                  refine gs rfl ?_
                  refine gs rfl ?_
                  refine gs rfl ?_
                  refine and_3 (Nat.le_of_ble_eq_true rfl) (Nat.le_of_ble_eq_true rfl) trivial ?_
                  refine gwh (set_n1 (by decide) (c' := .inr (0, [.int (1), .ref 70, .int (7), .ref 71, .int (0)])) rfl) ?_
                  refine gs rfl ?_
                  refine gs rfl ?_
                  refine gwl (L' := [some (.ref 32), some (.long _), none, some (.int _), some (.int (7))]) rfl ?_
                  refine gs rfl ?_
                  refine gs rfl ?_
                  refine gs rfl ?_
                  refine ifs (fun c36 => ?_) (fun c36 => ?_)
                  · have d37 : (s3).toInt ≤ 7 := (le_k (by rfl) (by rfl)).mp c36
                    refine gs rfl ?_
                    refine gs rfl ?_
                    refine gs rfl ?_
                    refine gs rfl ?_
                    refine and_i rfl ?_
                    refine FRg rfl (fun f => ?_)
                    refine gs rfl ?_
                    refine gs rfl ?_
                    refine gs rfl ?_
                    refine gs rfl ?_
                    refine gs rfl ?_
                    refine gs rfl ?_
                    refine and_2 rfl (vin rfl) ?_
                    refine gwst (st' := .int s1 :: _) rfl ?_
                    refine gs rfl ?_
                    refine gs rfl ?_
                    refine gs rfl ?_
                    refine gs rfl ?_
                    refine gs rfl ?_
                    refine gs rfl ?_
                    refine gs rfl ?_
                    refine gs rfl ?_
                    refine and_2 rfl (vin rfl) ?_
                    refine gwst (st' := .int s2 :: _) rfl ?_
                    refine gs rfl ?_
                    refine gs rfl ?_
                    refine gs rfl ?_
                    refine gs rfl ?_
                    refine gs rfl ?_
                    refine gs rfl ?_
                    refine gs rfl ?_
                    refine gs rfl ?_
                    refine gs rfl ?_
                    refine and_2 rfl (vin rfl) ?_
                    refine gwst (st' := .int s3 :: _) rfl ?_
                    refine gs rfl ?_
                    refine and_i (Nat.le_of_ble_eq_true rfl) (cl0 (Nat.le_of_ble_eq_true rfl) (and_i (Nat.le_of_ble_eq_true rfl) ?_))
                    refine gwl (L' := [some (.ref 89), some (.long _), none, some (.int _), none]) rfl ?_
                    refine gs rfl ?_
                    refine gs rfl ?_
                    refine gs rfl ?_
                    refine gs rfl ?_
                    refine and_i (Nat.le_of_ble_eq_true rfl) (cl0 (Nat.le_of_ble_eq_true rfl) (and_i (Nat.le_of_ble_eq_true rfl) ?_))
                    refine gwl (L' := [some (.int _), some (.int (1)), some (.int (8))]) rfl ?_
                    refine gs rfl ?_
                    refine gs rfl ?_
                    refine gs rfl ?_
                    refine ifF ((fun q => absurd ((lt_k (a := (s3).toInt) (b := 1) (by rfl) (by rfl)).mp q) (by omega))) ?_
                    refine gs rfl ?_
                    refine gs rfl ?_
                    refine gs rfl ?_
                    refine ifF ((fun q => absurd ((lt_k (a := 8) (b := (s3).toInt) (by rfl) (by rfl)).mp q) (by omega))) ?_
                    refine gs rfl ?_
                    refine gs rfl ?_
                    refine gs rfl ?_
                    refine and_2 rfl (Or.inr rfl) ?_
                    refine gs rfl ?_
                    refine gs rfl ?_
                    refine gs rfl ?_
                    refine gs rfl ?_
                    refine gs rfl ?_
                    refine and_2 rfl (vin rfl) ?_
                    refine gwst (st' := .int (0) :: _) rfl ?_
                    refine gs rfl ?_
                    obtain ⟨j38, e39, x40⟩ := nat_of (x := s3) (lo := 7) (hi := 7) (by omega) (by omega)
                    obtain rfl : j38 = 7 := by omega
                    have x40q : s3 = (7 : Int32) := x40
                    clear x40
                    subst x40q
                    refine gs rfl ?_
                    refine gs rfl ?_
                    refine gs rfl ?_
                    refine gs rfl ?_
                    refine gs rfl ?_
                    refine gs rfl ?_
                    refine gs rfl ?_
                    refine gs rfl ?_
                    refine gs rfl ?_
                    refine gs rfl ?_
                    refine gs rfl ?_
                    refine gs rfl ?_
                    refine gs rfl ?_
                    refine gs rfl ?_
                    refine gs rfl ?_
                    refine and_2 rfl (vin rfl) ?_
                    refine gwst (st' := .int (0) :: _) rfl ?_
                    refine gs rfl ?_
                    refine gs rfl ?_
                    refine gs rfl ?_
                    refine gs rfl ?_
                    refine gs rfl ?_
                    refine gs rfl ?_
                    refine gs rfl ?_
                    refine gs rfl ?_
                    refine gs rfl ?_
                    refine gs rfl ?_
                    refine and_3 (Nat.le_of_ble_eq_true rfl) rfl (vin rfl) ?_
                    refine gs rfl ?_
                    refine gs rfl ?_
                    refine gs rfl ?_
                    refine gs rfl ?_
                    refine gs rfl ?_
                    refine and_2 rfl (vin rfl) ?_
                    refine gwst (st' := .int (0) :: _) rfl ?_
                    refine gs rfl ?_
                    refine gs rfl ?_
                    refine gs rfl ?_
                    refine and_3 (Nat.le_of_ble_eq_true rfl) rfl (vin rfl) ?_
                    refine gwh (set_n0  rfl) ?_
                    refine gs rfl ?_
                    refine gs rfl ?_
                    refine gwl (L' := [some (.ref 89), some (.long _), none, some (.int (7)), some (.int (1))]) rfl ?_
                    refine gs rfl ?_
                    refine gs rfl ?_
                    refine gs rfl ?_
                    refine gs rfl ?_
                    refine gs rfl ?_
                    refine gs rfl ?_
                    refine gs rfl ?_
                    refine gs rfl ?_
                    refine gs rfl ?_
                    refine gs rfl ?_
                    refine and_2 rfl (vin rfl) ?_
                    refine gwst (st' := .int (1) :: _) rfl ?_
                    refine gs rfl ?_
                    refine gs rfl ?_
                    refine gs rfl ?_
                    refine gs rfl ?_
                    refine gs rfl ?_
                    refine gs rfl ?_
                    refine gs rfl ?_
                    refine gs rfl ?_
                    refine gs rfl ?_
                    refine gs rfl ?_
                    refine and_3 (Nat.le_of_ble_eq_true rfl) rfl (vin rfl) ?_
                    refine gwh (set_n0  rfl) ?_
                    refine gs rfl ?_
                    refine gs rfl ?_
                    refine gs rfl ?_
                    refine gs rfl ?_
                    refine gs rfl ?_
                    refine and_2 rfl (vin rfl) ?_
                    refine gwst (st' := .int (1) :: _) rfl ?_
                    refine gs rfl ?_
                    refine gs rfl ?_
                    refine gs rfl ?_
                    refine and_3 (Nat.le_of_ble_eq_true rfl) rfl (vin rfl) ?_
                    refine gwh (set_n0  rfl) ?_
                    refine gs rfl ?_
                    refine gs rfl ?_
                    refine gwl (L' := [some (.ref 89), some (.long _), none, some (.int (7)), some (.int (2))]) rfl ?_
                    refine gs rfl ?_
                    refine gs rfl ?_
                    refine gs rfl ?_
                    refine gs rfl ?_
                    refine gs rfl ?_
                    refine gs rfl ?_
                    refine gs rfl ?_
                    refine gs rfl ?_
                    refine gs rfl ?_
                    refine gs rfl ?_
                    refine and_2 rfl (vin rfl) ?_
                    refine gwst (st' := .int (2) :: _) rfl ?_
                    refine gs rfl ?_
                    refine gs rfl ?_
                    refine gs rfl ?_
                    refine gs rfl ?_
                    refine gs rfl ?_
                    refine gs rfl ?_
                    refine gs rfl ?_
                    refine gs rfl ?_
                    refine gs rfl ?_
                    refine gs rfl ?_
                    refine and_3 (Nat.le_of_ble_eq_true rfl) rfl (vin rfl) ?_
                    refine gwh (set_n0  rfl) ?_
                    refine gs rfl ?_
                    refine gs rfl ?_
                    refine gs rfl ?_
                    refine gs rfl ?_
                    refine gs rfl ?_
                    refine and_2 rfl (vin rfl) ?_
                    refine gwst (st' := .int (2) :: _) rfl ?_
                    refine gs rfl ?_
                    refine gs rfl ?_
                    refine gs rfl ?_
                    refine and_3 (Nat.le_of_ble_eq_true rfl) rfl (vin rfl) ?_
                    refine gwh (set_n0  rfl) ?_
                    refine gs rfl ?_
                    refine gs rfl ?_
                    refine gwl (L' := [some (.ref 89), some (.long _), none, some (.int (7)), some (.int (3))]) rfl ?_
                    refine gs rfl ?_
                    refine gs rfl ?_
                    refine gs rfl ?_
                    refine gs rfl ?_
                    refine gs rfl ?_
                    refine gs rfl ?_
                    refine gs rfl ?_
                    refine gs rfl ?_
                    refine gs rfl ?_
                    refine gs rfl ?_
                    refine and_2 rfl (vin rfl) ?_
                    refine gwst (st' := .int (3) :: _) rfl ?_
                    refine gs rfl ?_
                    refine gs rfl ?_
                    refine gs rfl ?_
                    refine gs rfl ?_
                    refine gs rfl ?_
                    refine gs rfl ?_
                    refine gs rfl ?_
                    refine gs rfl ?_
                    refine gs rfl ?_
                    refine gs rfl ?_
                    refine and_3 (Nat.le_of_ble_eq_true rfl) rfl (vin rfl) ?_
                    refine gwh (set_n0  rfl) ?_
                    refine gs rfl ?_
                    refine gs rfl ?_
                    refine gs rfl ?_
                    refine gs rfl ?_
                    refine gs rfl ?_
                    refine and_2 rfl (vin rfl) ?_
                    refine gwst (st' := .int (3) :: _) rfl ?_
                    refine gs rfl ?_
                    refine gs rfl ?_
                    refine gs rfl ?_
                    refine and_3 (Nat.le_of_ble_eq_true rfl) rfl (vin rfl) ?_
                    refine gwh (set_n0  rfl) ?_
                    refine gs rfl ?_
                    refine gs rfl ?_
                    refine gwl (L' := [some (.ref 89), some (.long _), none, some (.int (7)), some (.int (4))]) rfl ?_
                    refine gs rfl ?_
                    refine gs rfl ?_
                    refine gs rfl ?_
                    refine gs rfl ?_
                    refine gs rfl ?_
                    refine gs rfl ?_
                    refine gs rfl ?_
                    refine gs rfl ?_
                    refine gs rfl ?_
                    refine gs rfl ?_
                    refine and_2 rfl (vin rfl) ?_
                    refine gwst (st' := .int (4) :: _) rfl ?_
                    refine gs rfl ?_
                    refine gs rfl ?_
                    refine gs rfl ?_
                    refine gs rfl ?_
                    refine gs rfl ?_
                    refine gs rfl ?_
                    refine gs rfl ?_
                    refine gs rfl ?_
                    refine gs rfl ?_
                    refine gs rfl ?_
                    refine and_3 (Nat.le_of_ble_eq_true rfl) rfl (vin rfl) ?_
                    refine gwh (set_n0  rfl) ?_
                    refine gs rfl ?_
                    refine gs rfl ?_
                    refine gs rfl ?_
                    refine gs rfl ?_
                    refine gs rfl ?_
                    refine and_2 rfl (vin rfl) ?_
                    refine gwst (st' := .int (4) :: _) rfl ?_
                    refine gs rfl ?_
                    refine gs rfl ?_
                    refine gs rfl ?_
                    refine and_3 (Nat.le_of_ble_eq_true rfl) rfl (vin rfl) ?_
                    refine gwh (set_n0  rfl) ?_
                    refine gs rfl ?_
                    refine gs rfl ?_
                    refine gwl (L' := [some (.ref 89), some (.long _), none, some (.int (7)), some (.int (5))]) rfl ?_
                    refine gs rfl ?_
                    refine gs rfl ?_
                    refine gs rfl ?_
                    refine gs rfl ?_
                    refine gs rfl ?_
                    refine gs rfl ?_
                    refine gs rfl ?_
                    refine gs rfl ?_
                    refine gs rfl ?_
                    refine gs rfl ?_
                    refine and_2 rfl (vin rfl) ?_
                    refine gwst (st' := .int (5) :: _) rfl ?_
                    refine gs rfl ?_
                    refine gs rfl ?_
                    refine gs rfl ?_
                    refine gs rfl ?_
                    refine gs rfl ?_
                    refine gs rfl ?_
                    refine gs rfl ?_
                    refine gs rfl ?_
                    refine gs rfl ?_
                    refine gs rfl ?_
                    refine and_3 (Nat.le_of_ble_eq_true rfl) rfl (vin rfl) ?_
                    refine gwh (set_n0  rfl) ?_
                    refine gs rfl ?_
                    refine gs rfl ?_
                    refine gs rfl ?_
                    refine gs rfl ?_
                    refine gs rfl ?_
                    refine and_2 rfl (vin rfl) ?_
                    refine gwst (st' := .int (5) :: _) rfl ?_
                    refine gs rfl ?_
                    refine gs rfl ?_
                    refine gs rfl ?_
                    refine and_3 (Nat.le_of_ble_eq_true rfl) rfl (vin rfl) ?_
                    refine gwh (set_n0  rfl) ?_
                    refine gs rfl ?_
                    refine gs rfl ?_
                    refine gwl (L' := [some (.ref 89), some (.long _), none, some (.int (7)), some (.int (6))]) rfl ?_
                    refine gs rfl ?_
                    refine gs rfl ?_
                    refine gs rfl ?_
                    refine gs rfl ?_
                    refine gs rfl ?_
                    refine gs rfl ?_
                    refine gs rfl ?_
                    refine gs rfl ?_
                    refine gs rfl ?_
                    refine gs rfl ?_
                    refine and_2 rfl (vin rfl) ?_
                    refine gwst (st' := .int (6) :: _) rfl ?_
                    refine gs rfl ?_
                    refine gs rfl ?_
                    refine gs rfl ?_
                    refine gs rfl ?_
                    refine gs rfl ?_
                    refine gs rfl ?_
                    refine gs rfl ?_
                    refine gs rfl ?_
                    refine gs rfl ?_
                    refine gs rfl ?_
                    refine and_3 (Nat.le_of_ble_eq_true rfl) rfl (vin rfl) ?_
                    refine gwh (set_n0  rfl) ?_
                    refine gs rfl ?_
                    refine gs rfl ?_
                    refine gs rfl ?_
                    refine gs rfl ?_
                    refine gs rfl ?_
                    refine and_2 rfl (vin rfl) ?_
                    refine gwst (st' := .int (6) :: _) rfl ?_
                    refine gs rfl ?_
                    refine gs rfl ?_
                    refine gs rfl ?_
                    refine and_3 (Nat.le_of_ble_eq_true rfl) rfl (vin rfl) ?_
                    refine gwh (set_n0  rfl) ?_
                    refine gs rfl ?_
                    refine gs rfl ?_
                    refine gwl (L' := [some (.ref 89), some (.long _), none, some (.int (7)), some (.int (7))]) rfl ?_
                    refine gs rfl ?_
                    refine gs rfl ?_
                    refine gs rfl ?_
                    refine gs rfl ?_
                    refine gs rfl ?_
                    refine gs rfl ?_
                    refine gs rfl ?_
                    refine and_2 rfl (vin rfl) ?_
                    refine gwst (st' := .int (7) :: _) rfl ?_
                    refine gs rfl ?_
                    refine and_i rfl ?_
                    refine gs rfl ?_
                    refine gs rfl ?_
                    refine gs rfl ?_
                    refine gwl (L' := [some (.ref 0), some (.ref 32), some (.ref 89), some (.int (6))]) rfl ?_
                    refine gs rfl ?_
                    refine gs rfl ?_
                    refine gs rfl ?_
                    refine and_i (Or.inl rfl) ?_
                    refine gwst (congrArg (fun z => Value.int z :: _) (alen_k (n := 6) (by rfl))) ?_
                    refine gs rfl ?_
                    refine gs rfl ?_
                    refine gs rfl ?_
                    refine gs rfl ?_
                    refine gs rfl ?_
                    refine and_2 rfl (Or.inr rfl) ?_
                    exact rfl
                  · have d37 : ¬ ((s3).toInt ≤ 7) := fun q => c36 ((le_k (by rfl) (by rfl)).mpr q)
                    refine gs rfl ?_
                    refine gs rfl ?_
                    refine gs rfl ?_
                    refine gs rfl ?_
                    refine gs rfl ?_
                    refine gs rfl ?_
                    refine gs rfl ?_
                    refine gs rfl ?_
                    refine gs rfl ?_
                    refine gs rfl ?_
                    refine gs rfl ?_
                    refine gs rfl ?_
                    refine gs rfl ?_
                    refine gs rfl ?_
                    refine gs rfl ?_
                    refine and_3 (Nat.le_of_ble_eq_true rfl) rfl (vin rfl) ?_
                    refine gwh (set_n1 (by decide)  rfl) ?_
                    refine gs rfl ?_
                    refine gs rfl ?_
                    refine gs rfl ?_
                    refine gs rfl ?_
                    refine gs rfl ?_
                    refine gs rfl ?_
                    refine gs rfl ?_
                    refine and_3 (Nat.le_of_ble_eq_true rfl) (Nat.le_of_ble_eq_true rfl) trivial ?_
                    refine gwh (set_n1 (by decide) (c' := .inr (0, [.int (1), .ref 70, .int (8), .ref 71, .int (0)])) rfl) ?_
                    refine gs rfl ?_
                    refine gs rfl ?_
                    refine gwl (L' := [some (.ref 32), some (.long _), none, some (.int _), some (.int (8))]) rfl ?_
                    refine gs rfl ?_
                    refine gs rfl ?_
                    refine gs rfl ?_
                    refine ifT ((le_k (a := (s3).toInt) (b := 8) (by rfl) (by rfl)).mpr (by omega)) ?_
                    refine gs rfl ?_
                    refine gs rfl ?_
                    refine gs rfl ?_
                    refine gs rfl ?_
                    refine and_i rfl ?_
                    refine FRg rfl (fun f => ?_)
                    refine gs rfl ?_
                    refine gs rfl ?_
                    refine gs rfl ?_
                    refine gs rfl ?_
                    refine gs rfl ?_
                    refine gs rfl ?_
                    refine and_2 rfl (vin rfl) ?_
                    refine gwst (st' := .int s1 :: _) rfl ?_
                    refine gs rfl ?_
                    refine gs rfl ?_
                    refine gs rfl ?_
                    refine gs rfl ?_
                    refine gs rfl ?_
                    refine gs rfl ?_
                    refine gs rfl ?_
                    refine gs rfl ?_
                    refine and_2 rfl (vin rfl) ?_
                    refine gwst (st' := .int s2 :: _) rfl ?_
                    refine gs rfl ?_
                    refine gs rfl ?_
                    refine gs rfl ?_
                    refine gs rfl ?_
                    refine gs rfl ?_
                    refine gs rfl ?_
                    refine gs rfl ?_
                    refine gs rfl ?_
                    refine gs rfl ?_
                    refine and_2 rfl (vin rfl) ?_
                    refine gwst (st' := .int s3 :: _) rfl ?_
                    refine gs rfl ?_
                    refine and_i (Nat.le_of_ble_eq_true rfl) (cl0 (Nat.le_of_ble_eq_true rfl) (and_i (Nat.le_of_ble_eq_true rfl) ?_))
                    refine gwl (L' := [some (.ref 89), some (.long _), none, some (.int _), none]) rfl ?_
                    refine gs rfl ?_
                    refine gs rfl ?_
                    refine gs rfl ?_
                    refine gs rfl ?_
                    refine and_i (Nat.le_of_ble_eq_true rfl) (cl0 (Nat.le_of_ble_eq_true rfl) (and_i (Nat.le_of_ble_eq_true rfl) ?_))
                    refine gwl (L' := [some (.int _), some (.int (1)), some (.int (8))]) rfl ?_
                    refine gs rfl ?_
                    refine gs rfl ?_
                    refine gs rfl ?_
                    refine ifF ((fun q => absurd ((lt_k (a := (s3).toInt) (b := 1) (by rfl) (by rfl)).mp q) (by omega))) ?_
                    refine gs rfl ?_
                    refine gs rfl ?_
                    refine gs rfl ?_
                    refine ifF ((fun q => absurd ((lt_k (a := 8) (b := (s3).toInt) (by rfl) (by rfl)).mp q) (by omega))) ?_
                    refine gs rfl ?_
                    refine gs rfl ?_
                    refine gs rfl ?_
                    refine and_2 rfl (Or.inr rfl) ?_
                    refine gs rfl ?_
                    refine gs rfl ?_
                    refine gs rfl ?_
                    refine gs rfl ?_
                    refine gs rfl ?_
                    refine and_2 rfl (vin rfl) ?_
                    refine gwst (st' := .int (0) :: _) rfl ?_
                    refine gs rfl ?_
                    obtain ⟨j41, e42, x43⟩ := nat_of (x := s3) (lo := 8) (hi := 8) (by omega) (by omega)
                    obtain rfl : j41 = 8 := by omega
                    have x43q : s3 = (8 : Int32) := x43
                    clear x43
                    subst x43q
                    refine gs rfl ?_
                    refine gs rfl ?_
                    refine gs rfl ?_
                    refine gs rfl ?_
                    refine gs rfl ?_
                    refine gs rfl ?_
                    refine gs rfl ?_
                    refine gs rfl ?_
                    refine gs rfl ?_
                    refine gs rfl ?_
                    refine gs rfl ?_
                    refine gs rfl ?_
                    refine gs rfl ?_
                    refine gs rfl ?_
                    refine gs rfl ?_
                    refine and_2 rfl (vin rfl) ?_
                    refine gwst (st' := .int (0) :: _) rfl ?_
                    refine gs rfl ?_
                    refine gs rfl ?_
                    refine gs rfl ?_
                    refine gs rfl ?_
                    refine gs rfl ?_
                    refine gs rfl ?_
                    refine gs rfl ?_
                    refine gs rfl ?_
                    refine gs rfl ?_
                    refine gs rfl ?_
                    refine and_3 (Nat.le_of_ble_eq_true rfl) rfl (vin rfl) ?_
                    refine gs rfl ?_
                    refine gs rfl ?_
                    refine gs rfl ?_
                    refine gs rfl ?_
                    refine gs rfl ?_
                    refine and_2 rfl (vin rfl) ?_
                    refine gwst (st' := .int (0) :: _) rfl ?_
                    refine gs rfl ?_
                    refine gs rfl ?_
                    refine gs rfl ?_
                    refine and_3 (Nat.le_of_ble_eq_true rfl) rfl (vin rfl) ?_
                    refine gwh (set_n0  rfl) ?_
                    refine gs rfl ?_
                    refine gs rfl ?_
                    refine gwl (L' := [some (.ref 89), some (.long _), none, some (.int (8)), some (.int (1))]) rfl ?_
                    refine gs rfl ?_
                    refine gs rfl ?_
                    refine gs rfl ?_
                    refine gs rfl ?_
                    refine gs rfl ?_
                    refine gs rfl ?_
                    refine gs rfl ?_
                    refine gs rfl ?_
                    refine gs rfl ?_
                    refine gs rfl ?_
                    refine and_2 rfl (vin rfl) ?_
                    refine gwst (st' := .int (1) :: _) rfl ?_
                    refine gs rfl ?_
                    refine gs rfl ?_
                    refine gs rfl ?_
                    refine gs rfl ?_
                    refine gs rfl ?_
                    refine gs rfl ?_
                    refine gs rfl ?_
                    refine gs rfl ?_
                    refine gs rfl ?_
                    refine gs rfl ?_
                    refine and_3 (Nat.le_of_ble_eq_true rfl) rfl (vin rfl) ?_
                    refine gwh (set_n0  rfl) ?_
                    refine gs rfl ?_
                    refine gs rfl ?_
                    refine gs rfl ?_
                    refine gs rfl ?_
                    refine gs rfl ?_
                    refine and_2 rfl (vin rfl) ?_
                    refine gwst (st' := .int (1) :: _) rfl ?_
                    refine gs rfl ?_
                    refine gs rfl ?_
                    refine gs rfl ?_
                    refine and_3 (Nat.le_of_ble_eq_true rfl) rfl (vin rfl) ?_
                    refine gwh (set_n0  rfl) ?_
                    refine gs rfl ?_
                    refine gs rfl ?_
                    refine gwl (L' := [some (.ref 89), some (.long _), none, some (.int (8)), some (.int (2))]) rfl ?_
                    refine gs rfl ?_
                    refine gs rfl ?_
                    refine gs rfl ?_
                    refine gs rfl ?_
                    refine gs rfl ?_
                    refine gs rfl ?_
                    refine gs rfl ?_
                    refine gs rfl ?_
                    refine gs rfl ?_
                    refine gs rfl ?_
                    refine and_2 rfl (vin rfl) ?_
                    refine gwst (st' := .int (2) :: _) rfl ?_
                    refine gs rfl ?_
                    refine gs rfl ?_
                    refine gs rfl ?_
                    refine gs rfl ?_
                    refine gs rfl ?_
                    refine gs rfl ?_
                    refine gs rfl ?_
                    refine gs rfl ?_
                    refine gs rfl ?_
                    refine gs rfl ?_
                    refine and_3 (Nat.le_of_ble_eq_true rfl) rfl (vin rfl) ?_
                    refine gwh (set_n0  rfl) ?_
                    refine gs rfl ?_
                    refine gs rfl ?_
                    refine gs rfl ?_
                    refine gs rfl ?_
                    refine gs rfl ?_
                    refine and_2 rfl (vin rfl) ?_
                    refine gwst (st' := .int (2) :: _) rfl ?_
                    refine gs rfl ?_
                    refine gs rfl ?_
                    refine gs rfl ?_
                    refine and_3 (Nat.le_of_ble_eq_true rfl) rfl (vin rfl) ?_
                    refine gwh (set_n0  rfl) ?_
                    refine gs rfl ?_
                    refine gs rfl ?_
                    refine gwl (L' := [some (.ref 89), some (.long _), none, some (.int (8)), some (.int (3))]) rfl ?_
                    refine gs rfl ?_
                    refine gs rfl ?_
                    refine gs rfl ?_
                    refine gs rfl ?_
                    refine gs rfl ?_
                    refine gs rfl ?_
                    refine gs rfl ?_
                    refine gs rfl ?_
                    refine gs rfl ?_
                    refine gs rfl ?_
                    refine and_2 rfl (vin rfl) ?_
                    refine gwst (st' := .int (3) :: _) rfl ?_
                    refine gs rfl ?_
                    refine gs rfl ?_
                    refine gs rfl ?_
                    refine gs rfl ?_
                    refine gs rfl ?_
                    refine gs rfl ?_
                    refine gs rfl ?_
                    refine gs rfl ?_
                    refine gs rfl ?_
                    refine gs rfl ?_
                    refine and_3 (Nat.le_of_ble_eq_true rfl) rfl (vin rfl) ?_
                    refine gwh (set_n0  rfl) ?_
                    refine gs rfl ?_
                    refine gs rfl ?_
                    refine gs rfl ?_
                    refine gs rfl ?_
                    refine gs rfl ?_
                    refine and_2 rfl (vin rfl) ?_
                    refine gwst (st' := .int (3) :: _) rfl ?_
                    refine gs rfl ?_
                    refine gs rfl ?_
                    refine gs rfl ?_
                    refine and_3 (Nat.le_of_ble_eq_true rfl) rfl (vin rfl) ?_
                    refine gwh (set_n0  rfl) ?_
                    refine gs rfl ?_
                    refine gs rfl ?_
                    refine gwl (L' := [some (.ref 89), some (.long _), none, some (.int (8)), some (.int (4))]) rfl ?_
                    refine gs rfl ?_
                    refine gs rfl ?_
                    refine gs rfl ?_
                    refine gs rfl ?_
                    refine gs rfl ?_
                    refine gs rfl ?_
                    refine gs rfl ?_
                    refine gs rfl ?_
                    refine gs rfl ?_
                    refine gs rfl ?_
                    refine and_2 rfl (vin rfl) ?_
                    refine gwst (st' := .int (4) :: _) rfl ?_
                    refine gs rfl ?_
                    refine gs rfl ?_
                    refine gs rfl ?_
                    refine gs rfl ?_
                    refine gs rfl ?_
                    refine gs rfl ?_
                    refine gs rfl ?_
                    refine gs rfl ?_
                    refine gs rfl ?_
                    refine gs rfl ?_
                    refine and_3 (Nat.le_of_ble_eq_true rfl) rfl (vin rfl) ?_
                    refine gwh (set_n0  rfl) ?_
                    refine gs rfl ?_
                    refine gs rfl ?_
                    refine gs rfl ?_
                    refine gs rfl ?_
                    refine gs rfl ?_
                    refine and_2 rfl (vin rfl) ?_
                    refine gwst (st' := .int (4) :: _) rfl ?_
                    refine gs rfl ?_
                    refine gs rfl ?_
                    refine gs rfl ?_
                    refine and_3 (Nat.le_of_ble_eq_true rfl) rfl (vin rfl) ?_
                    refine gwh (set_n0  rfl) ?_
                    refine gs rfl ?_
                    refine gs rfl ?_
                    refine gwl (L' := [some (.ref 89), some (.long _), none, some (.int (8)), some (.int (5))]) rfl ?_
                    refine gs rfl ?_
                    refine gs rfl ?_
                    refine gs rfl ?_
                    refine gs rfl ?_
                    refine gs rfl ?_
                    refine gs rfl ?_
                    refine gs rfl ?_
                    refine gs rfl ?_
                    refine gs rfl ?_
                    refine gs rfl ?_
                    refine and_2 rfl (vin rfl) ?_
                    refine gwst (st' := .int (5) :: _) rfl ?_
                    refine gs rfl ?_
                    refine gs rfl ?_
                    refine gs rfl ?_
                    refine gs rfl ?_
                    refine gs rfl ?_
                    refine gs rfl ?_
                    refine gs rfl ?_
                    refine gs rfl ?_
                    refine gs rfl ?_
                    refine gs rfl ?_
                    refine and_3 (Nat.le_of_ble_eq_true rfl) rfl (vin rfl) ?_
                    refine gwh (set_n0  rfl) ?_
                    refine gs rfl ?_
                    refine gs rfl ?_
                    refine gs rfl ?_
                    refine gs rfl ?_
                    refine gs rfl ?_
                    refine and_2 rfl (vin rfl) ?_
                    refine gwst (st' := .int (5) :: _) rfl ?_
                    refine gs rfl ?_
                    refine gs rfl ?_
                    refine gs rfl ?_
                    refine and_3 (Nat.le_of_ble_eq_true rfl) rfl (vin rfl) ?_
                    refine gwh (set_n0  rfl) ?_
                    refine gs rfl ?_
                    refine gs rfl ?_
                    refine gwl (L' := [some (.ref 89), some (.long _), none, some (.int (8)), some (.int (6))]) rfl ?_
                    refine gs rfl ?_
                    refine gs rfl ?_
                    refine gs rfl ?_
                    refine gs rfl ?_
                    refine gs rfl ?_
                    refine gs rfl ?_
                    refine gs rfl ?_
                    refine gs rfl ?_
                    refine gs rfl ?_
                    refine gs rfl ?_
                    refine and_2 rfl (vin rfl) ?_
                    refine gwst (st' := .int (6) :: _) rfl ?_
                    refine gs rfl ?_
                    refine gs rfl ?_
                    refine gs rfl ?_
                    refine gs rfl ?_
                    refine gs rfl ?_
                    refine gs rfl ?_
                    refine gs rfl ?_
                    refine gs rfl ?_
                    refine gs rfl ?_
                    refine gs rfl ?_
                    refine and_3 (Nat.le_of_ble_eq_true rfl) rfl (vin rfl) ?_
                    refine gwh (set_n0  rfl) ?_
                    refine gs rfl ?_
                    refine gs rfl ?_
                    refine gs rfl ?_
                    refine gs rfl ?_
                    refine gs rfl ?_
                    refine and_2 rfl (vin rfl) ?_
                    refine gwst (st' := .int (6) :: _) rfl ?_
                    refine gs rfl ?_
                    refine gs rfl ?_
                    refine gs rfl ?_
                    refine and_3 (Nat.le_of_ble_eq_true rfl) rfl (vin rfl) ?_
                    refine gwh (set_n0  rfl) ?_
                    refine gs rfl ?_
                    refine gs rfl ?_
                    refine gwl (L' := [some (.ref 89), some (.long _), none, some (.int (8)), some (.int (7))]) rfl ?_
                    refine gs rfl ?_
                    refine gs rfl ?_
                    refine gs rfl ?_
                    refine gs rfl ?_
                    refine gs rfl ?_
                    refine gs rfl ?_
                    refine gs rfl ?_
                    refine gs rfl ?_
                    refine gs rfl ?_
                    refine gs rfl ?_
                    refine and_2 rfl (vin rfl) ?_
                    refine gwst (st' := .int (7) :: _) rfl ?_
                    refine gs rfl ?_
                    refine gs rfl ?_
                    refine gs rfl ?_
                    refine gs rfl ?_
                    refine gs rfl ?_
                    refine gs rfl ?_
                    refine gs rfl ?_
                    refine gs rfl ?_
                    refine gs rfl ?_
                    refine gs rfl ?_
                    refine and_3 (Nat.le_of_ble_eq_true rfl) rfl (vin rfl) ?_
                    refine gwh (set_n0  rfl) ?_
                    refine gs rfl ?_
                    refine gs rfl ?_
                    refine gs rfl ?_
                    refine gs rfl ?_
                    refine gs rfl ?_
                    refine and_2 rfl (vin rfl) ?_
                    refine gwst (st' := .int (7) :: _) rfl ?_
                    refine gs rfl ?_
                    refine gs rfl ?_
                    refine gs rfl ?_
                    refine and_3 (Nat.le_of_ble_eq_true rfl) rfl (vin rfl) ?_
                    refine gwh (set_n0  rfl) ?_
                    refine gs rfl ?_
                    refine gs rfl ?_
                    refine gwl (L' := [some (.ref 89), some (.long _), none, some (.int (8)), some (.int (8))]) rfl ?_
                    refine gs rfl ?_
                    refine gs rfl ?_
                    refine gs rfl ?_
                    refine gs rfl ?_
                    refine gs rfl ?_
                    refine gs rfl ?_
                    refine gs rfl ?_
                    refine and_2 rfl (vin rfl) ?_
                    refine gwst (st' := .int (8) :: _) rfl ?_
                    refine gs rfl ?_
                    refine and_i rfl ?_
                    refine gs rfl ?_
                    refine gs rfl ?_
                    refine gs rfl ?_
                    refine gwl (L' := [some (.ref 0), some (.ref 32), some (.ref 89), some (.int (6))]) rfl ?_
                    refine gs rfl ?_
                    refine gs rfl ?_
                    refine gs rfl ?_
                    refine and_i (Or.inl rfl) ?_
                    refine gwst (congrArg (fun z => Value.int z :: _) (alen_k (n := 6) (by rfl))) ?_
                    refine gs rfl ?_
                    refine gs rfl ?_
                    refine gs rfl ?_
                    refine gs rfl ?_
                    refine gs rfl ?_
                    refine and_2 rfl (Or.inr rfl) ?_
                    exact rfl
    · have d4 : ¬ ((s3).toInt ≤ 8) := fun q => c3 ((le_k (by rfl) (by rfl)).mpr q)
      refine gs rfl ?_
      refine gs rfl ?_
      refine gs rfl ?_
      refine and_i (Nat.le_of_ble_eq_true rfl) (cl0 (Nat.le_of_ble_eq_true rfl) (and_i (Nat.le_of_ble_eq_true rfl) ?_))
      refine gwl (L' := [some (.ref 32), some (.int (1))]) rfl ?_
      refine gs rfl ?_
      refine gs rfl ?_
      refine gs rfl ?_
      refine gs rfl ?_
      refine gs rfl ?_
      refine and_2 rfl (vin rfl) ?_
      refine gwst (st' := .int (0) :: _) rfl ?_
      refine gs rfl ?_
      refine gs rfl ?_
      refine gs rfl ?_
      refine and_3 (Nat.le_of_ble_eq_true rfl) rfl (vin rfl) ?_
      refine gs rfl ?_
      refine gs rfl ?_
      refine gs rfl ?_
      refine gs rfl ?_
      refine and_i rfl ?_
      refine gs rfl ?_
      refine and_i rfl ?_
      refine FRg rfl (fun f => ?_)
      refine gs rfl ?_
      refine gs rfl ?_
      refine gs rfl ?_
      refine gs rfl ?_
      refine gs rfl ?_
      refine gs rfl ?_
      refine and_2 rfl (vin rfl) ?_
      refine gwst (st' := .int s1 :: _) rfl ?_
      refine gs rfl ?_
      refine gs rfl ?_
      refine gs rfl ?_
      refine gs rfl ?_
      refine gs rfl ?_
      refine gs rfl ?_
      refine gs rfl ?_
      refine gs rfl ?_
      refine and_2 rfl (vin rfl) ?_
      refine gwst (st' := .int s2 :: _) rfl ?_
      refine gs rfl ?_
      refine gs rfl ?_
      refine gs rfl ?_
      refine gs rfl ?_
      refine gs rfl ?_
      refine gs rfl ?_
      refine gs rfl ?_
      refine gs rfl ?_
      refine gs rfl ?_
      refine and_2 rfl (vin rfl) ?_
      refine gwst (st' := .int s3 :: _) rfl ?_
      refine gs rfl ?_
      refine and_i (Nat.le_of_ble_eq_true rfl) (cl0 (Nat.le_of_ble_eq_true rfl) (and_i (Nat.le_of_ble_eq_true rfl) ?_))
      refine gwl (L' := [some (.ref 89), some (.long _), none, some (.int _), none]) rfl ?_
      refine gs rfl ?_
      refine gs rfl ?_
      refine gs rfl ?_
      refine gs rfl ?_
      refine and_i (Nat.le_of_ble_eq_true rfl) (cl0 (Nat.le_of_ble_eq_true rfl) (and_i (Nat.le_of_ble_eq_true rfl) ?_))
      refine gwl (L' := [some (.int _), some (.int (1)), some (.int (8))]) rfl ?_
      refine gs rfl ?_
      refine gs rfl ?_
      refine gs rfl ?_
      refine ifF ((fun q => absurd ((lt_k (a := (s3).toInt) (b := 1) (by rfl) (by rfl)).mp q) (by omega))) ?_
      refine gs rfl ?_
      refine gs rfl ?_
      refine gs rfl ?_
      refine ifT ((lt_k (a := 8) (b := (s3).toInt) (by rfl) (by rfl)).mpr (by omega)) ?_
      refine gs rfl ?_
      refine gs rfl ?_
      refine and_2 rfl (Or.inl rfl) ?_
      refine gs rfl ?_
      refine gs rfl ?_
      refine gs rfl ?_
      refine gs rfl ?_
      refine and_i (Nat.le_of_ble_eq_true rfl) (cl0 (Nat.le_of_ble_eq_true rfl) (and_i (Nat.le_of_ble_eq_true rfl) ?_))
      refine gwl (L' := [some (.ref 89), some (.int (-1000000001))]) rfl ?_
      refine gs rfl ?_
      refine gs rfl ?_
      refine gs rfl ?_
      refine gs rfl ?_
      refine gs rfl ?_
      refine gs rfl ?_
      refine gs rfl ?_
      refine and_2 rfl (vin rfl) ?_
      refine gwst (st' := .int (0) :: _) rfl ?_
      refine gs rfl ?_
      refine gs rfl ?_
      refine gs rfl ?_
      refine and_3 (Nat.le_of_ble_eq_true rfl) rfl (vin rfl) ?_
      refine gs rfl ?_
      refine gs rfl ?_
      refine and_i rfl ?_
      refine gs rfl ?_
      refine and_i rfl ?_
      refine gs rfl ?_
      refine gs rfl ?_
      refine gs rfl ?_
      refine gwl (L' := [some (.ref 0), some (.ref 32), some (.ref 89), some (.int (6))]) rfl ?_
      refine gs rfl ?_
      refine gs rfl ?_
      refine gs rfl ?_
      refine and_i (Or.inl rfl) ?_
      refine gwst (congrArg (fun z => Value.int z :: _) (alen_k (n := 6) (by rfl))) ?_
      refine gs rfl ?_
      refine gs rfl ?_
      refine gs rfl ?_
      refine gs rfl ?_
      refine gs rfl ?_
      refine and_2 rfl (Or.inr rfl) ?_
      exact rfl
end
